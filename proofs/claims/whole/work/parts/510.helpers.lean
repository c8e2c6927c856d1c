set_option maxHeartbeats 4000000 in
set_option maxRecDepth 100000 in
theorem h_L_put (l : Launch) (G : Gx) (ad : Nat → Nat) (s0 : Nat) (f : Nat → va_E) (a1 : Int32) (a2 : Int32) (PX : String → Prop) (post : Int32 → (Nat → va_E) → Prop) {fs : List Value} {g : Nat → Int64} (hX : xI l yX2_put wsX2_put 6 110 1 6 [.ref (ad 0), .int a1, .int a2] G 84 ad s0 f PX post) (h0 : f 0 = .inr (2, fs)) (hJ : ∀ r f', post r f' → f' 83 = eJ G 1 g) (hPX : ∀ E, PX E → E = xUO) : mI l yL_put wsL_put 7 133 1 6 [.ref (ad 0), .int a1, .int a2, .ref (ad 83)] G 84 ad s0 f (fun r f' => (r = nI 0 ∧ ∃ w f1, post w f1 ∧ f' = va_up f1 83 (eJ G 1 (vp_updL g 0 (if w = 0 then lN 0 else lN 1)))) ∨ (r = nI 1 ∧ PX xUO ∧ f' = f)) := by
  refine ov_hI (cc := cL_put) (maxL := 5) (hh := [(0, 17, 20, 13)]) (by decide) rfl (Nat.le_of_ble_eq_true rfl) ?_
  intro p e s m below meth c av Q S htab ret hG ls hl
  have S : CallFix p m c cL_put 5 s av wsL_put RL := S
  have hl : lv_has ls 5 [(0, .ref (ad 0)), (1, .int a1), (2, .int a2), (3, .ref (ad 83))] := hl
  refine lv_aload_n S.1 S.2.1 dL_put_0 rfl (lv_at hl 3 rfl) ?_
  refine lv_iconst (v := nI 0) S.1 S.2.1 dL_put_1 (by decide) ?_
  refine lv_aload_n S.1 S.2.1 dL_put_2 rfl (lv_at hl 0 rfl) ?_
  refine lv_iload_n S.1 S.2.1 dL_put_3 rfl (lv_at hl 1 rfl) ?_
  refine lv_iload_n S.1 S.2.1 dL_put_4 rfl (lv_at hl 2 rfl) ?_
  refine o_xVi S (rest := [.int (nI 0), .ref (ad 83)]) hX (cwV 2 S.2.2.2.2 gL_put_X2_put rfl rfl rfl (by decide +kernel) ⟨(Nat.le_of_ble_eq_true rfl), (Nat.le_of_ble_eq_true rfl)⟩) hG (by decide) h0 rfl rfl hl.1 rfl (Nat.le_of_ble_eq_true rfl) dL_put_5 ⟨(Nat.le_of_ble_eq_true rfl), (Nat.le_of_ble_eq_true rfl)⟩ (fun E ce q9 H locs hE hG h1 h2 h3 => ?_) (fun r9 f9 H locs hp hG => ?_)
  · skip
    obtain rfl := hPX E hE
    refine vx_catch (own := RL) (name := xUO) S.2.2.2.1 [] ⟨0, 17, 20, 13⟩ [] htab (fun z hz => absurd hz List.not_mem_nil) (by decide) (by decide) (S.2.2.2.2 (.classLink RL 13 xUO) (by decide +kernel)) (hG.2.2.2.2.1.2.2.use _ (by decide +kernel)) h1 h2 h3 ?_
    refine lv_astore (lv' := [(4, .ref q9), (0, .ref (ad 0)), (1, .int a1), (2, .int a2), (3, .ref (ad 83))]) S.1 S.2.1 dL_put_20 hl (by decide) rfl (fun ls hl => ?_)
    refine lv_iconst (v := nI 1) S.1 S.2.1 dL_put_22 (by decide) ?_
    exact ret _ _ _ _ _ _ _ _ hG (Or.inr ⟨rfl, hE, rfl⟩) rfl (Nat.le_of_ble_eq_true rfl) (Nat.le_of_ble_eq_true rfl) dL_put_23
  · skip
    refine lv_if_eq (tgt := 15) S.1 S.2.1 dL_put_8 (by decide) (fun c_8 => ?_) (fun c_8 => ?_)
    · skip
      refine lv_lconst (v := lN 0) S.1 S.2.1 dL_put_15 (by decide) ?_
      refine o_last S hG (j := 0) (by decide) (hJ _ _ hp) (by decide) dL_put_16 (kk := fun H locs hG => ?_)
      refine lv_goto (tgt := 24) S.1 S.2.1 dL_put_17 (by decide) ?_
      refine lv_iconst (v := nI 0) S.1 S.2.1 dL_put_24 (by decide) ?_
      exact ret _ _ _ _ _ _ _ _ hG (Or.inl ⟨rfl, r9, f9, hp, by rw [if_pos c_8]⟩) rfl (Nat.le_of_ble_eq_true rfl) (Nat.le_of_ble_eq_true rfl) dL_put_25
    · skip
      refine lv_lconst (v := lN 1) S.1 S.2.1 dL_put_11 (by decide) ?_
      refine lv_goto (tgt := 16) S.1 S.2.1 dL_put_12 (by decide) ?_
      refine o_last S hG (j := 0) (by decide) (hJ _ _ hp) (by decide) dL_put_16 (kk := fun H locs hG => ?_)
      refine lv_goto (tgt := 24) S.1 S.2.1 dL_put_17 (by decide) ?_
      refine lv_iconst (v := nI 0) S.1 S.2.1 dL_put_24 (by decide) ?_
      exact ret _ _ _ _ _ _ _ _ hG (Or.inl ⟨rfl, r9, f9, hp, by rw [if_neg c_8]⟩) rfl (Nat.le_of_ble_eq_true rfl) (Nat.le_of_ble_eq_true rfl) dL_put_25

set_option maxHeartbeats 4000000 in
set_option maxRecDepth 100000 in
theorem h_L_remove (l : Launch) (G : Gx) (ad : Nat → Nat) (s0 : Nat) (f : Nat → va_E) (a1 : Int32) (PX : String → Prop) (post : Int32 → (Nat → va_E) → Prop) {fs : List Value} {g : Nat → Int64} (hX : xI l yX2_remove wsX2_remove 6 110 1 6 [.ref (ad 0), .int a1] G 84 ad s0 f PX post) (h0 : f 0 = .inr (2, fs)) (hJ : ∀ r f', post r f' → f' 83 = eJ G 1 g) (hPX : ∀ E, PX E → E = xNS) : mI l yL_remove wsL_remove 7 133 1 6 [.ref (ad 0), .int a1, .ref (ad 83)] G 84 ad s0 f (fun r f' => (r = nI 0 ∧ ∃ w f1, post w f1 ∧ f' = va_up f1 83 (eJ G 1 (vp_updL g 0 w.toInt64))) ∨ (r = nI 1 ∧ PX xNS ∧ f' = f)) := by
  refine ov_hI (cc := cL_remove) (maxL := 4) (hh := [(0, 9, 12, 19)]) (by decide) rfl (Nat.le_of_ble_eq_true rfl) ?_
  intro p e s m below meth c av Q S htab ret hG ls hl
  have S : CallFix p m c cL_remove 4 s av wsL_remove RL := S
  have hl : lv_has ls 4 [(0, .ref (ad 0)), (1, .int a1), (2, .ref (ad 83))] := hl
  refine lv_aload_n S.1 S.2.1 dL_remove_0 rfl (lv_at hl 2 rfl) ?_
  refine lv_iconst (v := nI 0) S.1 S.2.1 dL_remove_1 (by decide) ?_
  refine lv_aload_n S.1 S.2.1 dL_remove_2 rfl (lv_at hl 0 rfl) ?_
  refine lv_iload_n S.1 S.2.1 dL_remove_3 rfl (lv_at hl 1 rfl) ?_
  refine o_xVi S (rest := [.int (nI 0), .ref (ad 83)]) hX (cwV 1 S.2.2.2.2 gL_remove_X2_remove rfl rfl rfl (by decide +kernel) ⟨(Nat.le_of_ble_eq_true rfl), (Nat.le_of_ble_eq_true rfl)⟩) hG (by decide) h0 rfl rfl hl.1 rfl (Nat.le_of_ble_eq_true rfl) dL_remove_4 ⟨(Nat.le_of_ble_eq_true rfl), (Nat.le_of_ble_eq_true rfl)⟩ (fun E ce q9 H locs hE hG h1 h2 h3 => ?_) (fun r9 f9 H locs hp hG => ?_)
  · skip
    obtain rfl := hPX E hE
    refine vx_catch (own := RL) (name := xNS) S.2.2.2.1 [] ⟨0, 9, 12, 19⟩ [] htab (fun z hz => absurd hz List.not_mem_nil) (by decide) (by decide) (S.2.2.2.2 (.classLink RL 19 xNS) (by decide +kernel)) (hG.2.2.2.2.1.2.2.use _ (by decide +kernel)) h1 h2 h3 ?_
    refine lv_astore_n (lv' := [(3, .ref q9), (0, .ref (ad 0)), (1, .int a1), (2, .ref (ad 83))]) S.1 S.2.1 dL_remove_12 rfl hl (by decide) rfl (fun ls hl => ?_)
    refine lv_iconst (v := nI 1) S.1 S.2.1 dL_remove_13 (by decide) ?_
    exact ret _ _ _ _ _ _ _ _ hG (Or.inr ⟨rfl, hE, rfl⟩) rfl (Nat.le_of_ble_eq_true rfl) (Nat.le_of_ble_eq_true rfl) dL_remove_14
  · skip
    refine lv_i2l (v := r9.toInt64) S.1 S.2.1 dL_remove_7 rfl ?_
    refine o_last S hG (j := 0) (by decide) (hJ _ _ hp) (by decide) dL_remove_8 (kk := fun H locs hG => ?_)
    refine lv_goto (tgt := 15) S.1 S.2.1 dL_remove_9 (by decide) ?_
    refine lv_iconst (v := nI 0) S.1 S.2.1 dL_remove_15 (by decide) ?_
    exact ret _ _ _ _ _ _ _ _ hG (Or.inl ⟨rfl, r9, f9, hp, rfl⟩) rfl (Nat.le_of_ble_eq_true rfl) (Nat.le_of_ble_eq_true rfl) dL_remove_16

set_option maxHeartbeats 4000000 in
set_option maxRecDepth 100000 in
theorem h_L_load (l : Launch) (G : Gx) (ad : Nat → Nat) (s0 : Nat) (f : Nat → va_E) (a1 : Int32) (a2 : Int32) (a3 : Int32) (a4 : Int32) (a5 : Int32) (PX : String → Prop) (post : Int32 → (Nat → va_E) → Prop) {fs : List Value} {g : Nat → Int64} (hX : xI l yX2_load wsX2_load 6 110 1 6 [.ref (ad 0), .int a1, .int a2, .int a3, .int a4, .int a5] G 84 ad s0 f PX post) (h0 : f 0 = .inr (2, fs)) (hJ : ∀ r f', post r f' → f' 83 = eJ G 1 g) (hPX : ∀ E, PX E → E = xIA) : mI l yL_load wsL_load 7 138 1 6 [.ref (ad 0), .int a1, .int a2, .int a3, .int a4, .int a5, .ref (ad 83)] G 84 ad s0 f (fun r f' => (r = nI 0 ∧ ∃ w f1, post w f1 ∧ f' = va_up f1 83 (eJ G 1 (vp_updL g 0 w.toInt64))) ∨ (r = nI 1 ∧ PX xIA ∧ f' = f)) := by
  refine ov_hI (cc := cL_load) (maxL := 8) (hh := [(0, 16, 19, 25)]) (by decide) rfl (Nat.le_of_ble_eq_true rfl) ?_
  intro p e s m below meth c av Q S htab ret hG ls hl
  have S : CallFix p m c cL_load 8 s av wsL_load RL := S
  have hl : lv_has ls 8 [(0, .ref (ad 0)), (1, .int a1), (2, .int a2), (3, .int a3), (4, .int a4), (5, .int a5), (6, .ref (ad 83))] := hl
  refine lv_aload S.1 S.2.1 dL_load_0 (lv_at hl 6 rfl) ?_
  refine lv_iconst (v := nI 0) S.1 S.2.1 dL_load_2 (by decide) ?_
  refine lv_aload_n S.1 S.2.1 dL_load_3 rfl (lv_at hl 0 rfl) ?_
  refine lv_iload_n S.1 S.2.1 dL_load_4 rfl (lv_at hl 1 rfl) ?_
  refine lv_iload_n S.1 S.2.1 dL_load_5 rfl (lv_at hl 2 rfl) ?_
  refine lv_iload_n S.1 S.2.1 dL_load_6 rfl (lv_at hl 3 rfl) ?_
  refine lv_iload S.1 S.2.1 dL_load_7 (lv_at hl 4 rfl) ?_
  refine lv_iload S.1 S.2.1 dL_load_9 (lv_at hl 5 rfl) ?_
  refine o_xVi S (rest := [.int (nI 0), .ref (ad 83)]) hX (cwV 5 S.2.2.2.2 gL_load_X2_load rfl rfl rfl (by decide +kernel) ⟨(Nat.le_of_ble_eq_true rfl), (Nat.le_of_ble_eq_true rfl)⟩) hG (by decide) h0 rfl rfl hl.1 rfl (Nat.le_of_ble_eq_true rfl) dL_load_11 ⟨(Nat.le_of_ble_eq_true rfl), (Nat.le_of_ble_eq_true rfl)⟩ (fun E ce q9 H locs hE hG h1 h2 h3 => ?_) (fun r9 f9 H locs hp hG => ?_)
  · skip
    obtain rfl := hPX E hE
    refine vx_catch (own := RL) (name := xIA) S.2.2.2.1 [] ⟨0, 16, 19, 25⟩ [] htab (fun z hz => absurd hz List.not_mem_nil) (by decide) (by decide) (S.2.2.2.2 (.classLink RL 25 xIA) (by decide +kernel)) (hG.2.2.2.2.1.2.2.use _ (by decide +kernel)) h1 h2 h3 ?_
    refine lv_astore (lv' := [(7, .ref q9), (0, .ref (ad 0)), (1, .int a1), (2, .int a2), (3, .int a3), (4, .int a4), (5, .int a5), (6, .ref (ad 83))]) S.1 S.2.1 dL_load_19 hl (by decide) rfl (fun ls hl => ?_)
    refine lv_iconst (v := nI 1) S.1 S.2.1 dL_load_21 (by decide) ?_
    exact ret _ _ _ _ _ _ _ _ hG (Or.inr ⟨rfl, hE, rfl⟩) rfl (Nat.le_of_ble_eq_true rfl) (Nat.le_of_ble_eq_true rfl) dL_load_22
  · skip
    refine lv_i2l (v := r9.toInt64) S.1 S.2.1 dL_load_14 rfl ?_
    refine o_last S hG (j := 0) (by decide) (hJ _ _ hp) (by decide) dL_load_15 (kk := fun H locs hG => ?_)
    refine lv_goto (tgt := 23) S.1 S.2.1 dL_load_16 (by decide) ?_
    refine lv_iconst (v := nI 0) S.1 S.2.1 dL_load_23 (by decide) ?_
    exact ret _ _ _ _ _ _ _ _ hG (Or.inl ⟨rfl, r9, f9, hp, rfl⟩) rfl (Nat.le_of_ble_eq_true rfl) (Nat.le_of_ble_eq_true rfl) dL_load_24

set_option maxHeartbeats 4000000 in
set_option maxRecDepth 100000 in
theorem h_L_merge (l : Launch) (G : Gx) (ad : Nat → Nat) (s0 : Nat) (f : Nat → va_E) (a1 : Int32) (PX : String → Prop) (post : Int32 → (Nat → va_E) → Prop) {fs : List Value} {g : Nat → Int64} (hX : xI l yX2_merge wsX2_merge 7 131 2 12 [.ref (ad 0), .int a1] G 84 ad s0 f PX post) (h0 : f 0 = .inr (2, fs)) (hJ : ∀ r f', post r f' → f' 83 = eJ G 1 g) (hPX : ∀ E, PX E → E = xIO ∨ E = xUO) : mI l yL_merge wsL_merge 8 154 2 12 [.ref (ad 0), .int a1, .ref (ad 83)] G 84 ad s0 f (fun r f' => (r = nI 0 ∧ ∃ w f1, post w f1 ∧ f' = va_up f1 83 (eJ G 1 (vp_updL g 0 w.toInt64))) ∨ (r = nI 1 ∧ PX xIO ∧ f' = f) ∨ (r = nI 2 ∧ PX xUO ∧ f' = f)) := by
  refine ov_hI (cc := cL_merge) (maxL := 4) (hh := [(0, 9, 12, 30), (0, 9, 15, 13)]) (by decide) rfl (Nat.le_of_ble_eq_true rfl) ?_
  intro p e s m below meth c av Q S htab ret hG ls hl
  have S : CallFix p m c cL_merge 4 s av wsL_merge RL := S
  have hl : lv_has ls 4 [(0, .ref (ad 0)), (1, .int a1), (2, .ref (ad 83))] := hl
  refine lv_aload_n S.1 S.2.1 dL_merge_0 rfl (lv_at hl 2 rfl) ?_
  refine lv_iconst (v := nI 0) S.1 S.2.1 dL_merge_1 (by decide) ?_
  refine lv_aload_n S.1 S.2.1 dL_merge_2 rfl (lv_at hl 0 rfl) ?_
  refine lv_iload_n S.1 S.2.1 dL_merge_3 rfl (lv_at hl 1 rfl) ?_
  refine o_xVi S (rest := [.int (nI 0), .ref (ad 83)]) hX (cwV 1 S.2.2.2.2 gL_merge_X2_merge rfl rfl rfl (by decide +kernel) ⟨(Nat.le_of_ble_eq_true rfl), (Nat.le_of_ble_eq_true rfl)⟩) hG (by decide) h0 rfl rfl hl.1 rfl (Nat.le_of_ble_eq_true rfl) dL_merge_4 ⟨(Nat.le_of_ble_eq_true rfl), (Nat.le_of_ble_eq_true rfl)⟩ (fun E ce q9 H locs hE hG h1 h2 h3 => ?_) (fun r9 f9 H locs hp hG => ?_)
  · skip
    rcases hPX E hE with rfl | rfl
    · skip
      refine vx_catch (own := RL) (name := xIO) S.2.2.2.1 [] ⟨0, 9, 12, 30⟩ [⟨0, 9, 15, 13⟩] htab (fun z hz => absurd hz List.not_mem_nil) (by decide) (by decide) (S.2.2.2.2 (.classLink RL 30 xIO) (by decide +kernel)) (hG.2.2.2.2.1.2.2.use _ (by decide +kernel)) h1 h2 h3 ?_
      refine lv_astore_n (lv' := [(3, .ref q9), (0, .ref (ad 0)), (1, .int a1), (2, .ref (ad 83))]) S.1 S.2.1 dL_merge_12 rfl hl (by decide) rfl (fun ls hl => ?_)
      refine lv_iconst (v := nI 1) S.1 S.2.1 dL_merge_13 (by decide) ?_
      exact ret _ _ _ _ _ _ _ _ hG (Or.inr (Or.inl ⟨rfl, hE, rfl⟩)) rfl (Nat.le_of_ble_eq_true rfl) (Nat.le_of_ble_eq_true rfl) dL_merge_14
    · skip
      refine vx_catch (own := RL) (name := xUO) S.2.2.2.1 [⟨0, 9, 12, 30⟩] ⟨0, 9, 15, 13⟩ [] htab (fun z hz => by rw [List.mem_singleton] at hz; subst hz; exact Or.inr ⟨by decide, xIO, S.2.2.2.2 (.classLink RL 30 xIO) (by decide +kernel), hG.2.2.2.2.1.2.2.2.2.1⟩) (by decide) (by decide) (S.2.2.2.2 (.classLink RL 13 xUO) (by decide +kernel)) (hG.2.2.2.2.1.2.2.use _ (by decide +kernel)) h1 h2 h3 ?_
      refine lv_astore_n (lv' := [(3, .ref q9), (0, .ref (ad 0)), (1, .int a1), (2, .ref (ad 83))]) S.1 S.2.1 dL_merge_15 rfl hl (by decide) rfl (fun ls hl => ?_)
      refine lv_iconst (v := nI 2) S.1 S.2.1 dL_merge_16 (by decide) ?_
      exact ret _ _ _ _ _ _ _ _ hG (Or.inr (Or.inr ⟨rfl, hE, rfl⟩)) rfl (Nat.le_of_ble_eq_true rfl) (Nat.le_of_ble_eq_true rfl) dL_merge_17
  · skip
    refine lv_i2l (v := r9.toInt64) S.1 S.2.1 dL_merge_7 rfl ?_
    refine o_last S hG (j := 0) (by decide) (hJ _ _ hp) (by decide) dL_merge_8 (kk := fun H locs hG => ?_)
    refine lv_goto (tgt := 18) S.1 S.2.1 dL_merge_9 (by decide) ?_
    refine lv_iconst (v := nI 0) S.1 S.2.1 dL_merge_18 (by decide) ?_
    exact ret _ _ _ _ _ _ _ _ hG (Or.inl ⟨rfl, r9, f9, hp, rfl⟩) rfl (Nat.le_of_ble_eq_true rfl) (Nat.le_of_ble_eq_true rfl) dL_merge_19

set_option maxHeartbeats 4000000 in
set_option maxRecDepth 100000 in
theorem h_L_snapshot (l : Launch) (G : Gx) (ad : Nat → Nat) (s0 : Nat) (f : Nat → va_E)  (PX : String → Prop) (post : Int32 → (Nat → va_E) → Prop) {fs : List Value} {g : Nat → Int64} (hX : xI l yX2_snapshot wsX2_snapshot 6 110 1 6 [.ref (ad 0)] G 84 ad s0 f PX post) (h0 : f 0 = .inr (2, fs)) (hJ : ∀ r f', post r f' → f' 83 = eJ G 1 g) (hPX : ∀ E, PX E → E = xUO) : mI l yL_snapshot wsL_snapshot 7 131 1 6 [.ref (ad 0), .ref (ad 83)] G 84 ad s0 f (fun r f' => (r = nI 0 ∧ ∃ w f1, post w f1 ∧ f' = va_up f1 83 (eJ G 1 (vp_updL g 0 w.toInt64))) ∨ (r = nI 1 ∧ PX xUO ∧ f' = f)) := by
  refine ov_hI (cc := cL_snapshot) (maxL := 3) (hh := [(0, 8, 11, 13)]) (by decide) rfl (Nat.le_of_ble_eq_true rfl) ?_
  intro p e s m below meth c av Q S htab ret hG ls hl
  have S : CallFix p m c cL_snapshot 3 s av wsL_snapshot RL := S
  have hl : lv_has ls 3 [(0, .ref (ad 0)), (1, .ref (ad 83))] := hl
  refine lv_aload_n S.1 S.2.1 dL_snapshot_0 rfl (lv_at hl 1 rfl) ?_
  refine lv_iconst (v := nI 0) S.1 S.2.1 dL_snapshot_1 (by decide) ?_
  refine lv_aload_n S.1 S.2.1 dL_snapshot_2 rfl (lv_at hl 0 rfl) ?_
  refine o_xVi S (rest := [.int (nI 0), .ref (ad 83)]) hX (cwV 0 S.2.2.2.2 gL_snapshot_X2_snapshot rfl rfl rfl (by decide +kernel) ⟨(Nat.le_of_ble_eq_true rfl), (Nat.le_of_ble_eq_true rfl)⟩) hG (by decide) h0 rfl rfl hl.1 rfl (Nat.le_of_ble_eq_true rfl) dL_snapshot_3 ⟨(Nat.le_of_ble_eq_true rfl), (Nat.le_of_ble_eq_true rfl)⟩ (fun E ce q9 H locs hE hG h1 h2 h3 => ?_) (fun r9 f9 H locs hp hG => ?_)
  · skip
    obtain rfl := hPX E hE
    refine vx_catch (own := RL) (name := xUO) S.2.2.2.1 [] ⟨0, 8, 11, 13⟩ [] htab (fun z hz => absurd hz List.not_mem_nil) (by decide) (by decide) (S.2.2.2.2 (.classLink RL 13 xUO) (by decide +kernel)) (hG.2.2.2.2.1.2.2.use _ (by decide +kernel)) h1 h2 h3 ?_
    refine lv_astore_n (lv' := [(2, .ref q9), (0, .ref (ad 0)), (1, .ref (ad 83))]) S.1 S.2.1 dL_snapshot_11 rfl hl (by decide) rfl (fun ls hl => ?_)
    refine lv_iconst (v := nI 1) S.1 S.2.1 dL_snapshot_12 (by decide) ?_
    exact ret _ _ _ _ _ _ _ _ hG (Or.inr ⟨rfl, hE, rfl⟩) rfl (Nat.le_of_ble_eq_true rfl) (Nat.le_of_ble_eq_true rfl) dL_snapshot_13
  · skip
    refine lv_i2l (v := r9.toInt64) S.1 S.2.1 dL_snapshot_6 rfl ?_
    refine o_last S hG (j := 0) (by decide) (hJ _ _ hp) (by decide) dL_snapshot_7 (kk := fun H locs hG => ?_)
    refine lv_goto (tgt := 14) S.1 S.2.1 dL_snapshot_8 (by decide) ?_
    refine lv_iconst (v := nI 0) S.1 S.2.1 dL_snapshot_14 (by decide) ?_
    exact ret _ _ _ _ _ _ _ _ hG (Or.inl ⟨rfl, r9, f9, hp, rfl⟩) rfl (Nat.le_of_ble_eq_true rfl) (Nat.le_of_ble_eq_true rfl) dL_snapshot_15

set_option maxHeartbeats 4000000 in
set_option maxRecDepth 100000 in
theorem h_L_release (l : Launch) (G : Gx) (ad : Nat → Nat) (s0 : Nat) (f : Nat → va_E) (a1 : Int32) (PX : String → Prop) (post : Int32 → (Nat → va_E) → Prop) {fs : List Value} {g : Nat → Int64} (hX : xI l yX2_release wsX2_release 8 152 2 12 [.ref (ad 0), .int a1] G 84 ad s0 f PX post) (h0 : f 0 = .inr (2, fs)) (hJ : ∀ r f', post r f' → f' 83 = eJ G 1 g) (hPX : ∀ E, PX E → E = xIO) : mI l yL_release wsL_release 9 173 2 12 [.ref (ad 0), .int a1, .ref (ad 83)] G 84 ad s0 f (fun r f' => (r = nI 0 ∧ ∃ w f1, post w f1 ∧ f' = va_up f1 83 (eJ G 1 (vp_updL g 0 w.toInt64))) ∨ (r = nI 1 ∧ PX xIO ∧ f' = f)) := by
  refine ov_hI (cc := cL_release) (maxL := 4) (hh := [(0, 9, 12, 30)]) (by decide) rfl (Nat.le_of_ble_eq_true rfl) ?_
  intro p e s m below meth c av Q S htab ret hG ls hl
  have S : CallFix p m c cL_release 4 s av wsL_release RL := S
  have hl : lv_has ls 4 [(0, .ref (ad 0)), (1, .int a1), (2, .ref (ad 83))] := hl
  refine lv_aload_n S.1 S.2.1 dL_release_0 rfl (lv_at hl 2 rfl) ?_
  refine lv_iconst (v := nI 0) S.1 S.2.1 dL_release_1 (by decide) ?_
  refine lv_aload_n S.1 S.2.1 dL_release_2 rfl (lv_at hl 0 rfl) ?_
  refine lv_iload_n S.1 S.2.1 dL_release_3 rfl (lv_at hl 1 rfl) ?_
  refine o_xVi S (rest := [.int (nI 0), .ref (ad 83)]) hX (cwV 1 S.2.2.2.2 gL_release_X2_release rfl rfl rfl (by decide +kernel) ⟨(Nat.le_of_ble_eq_true rfl), (Nat.le_of_ble_eq_true rfl)⟩) hG (by decide) h0 rfl rfl hl.1 rfl (Nat.le_of_ble_eq_true rfl) dL_release_4 ⟨(Nat.le_of_ble_eq_true rfl), (Nat.le_of_ble_eq_true rfl)⟩ (fun E ce q9 H locs hE hG h1 h2 h3 => ?_) (fun r9 f9 H locs hp hG => ?_)
  · skip
    obtain rfl := hPX E hE
    refine vx_catch (own := RL) (name := xIO) S.2.2.2.1 [] ⟨0, 9, 12, 30⟩ [] htab (fun z hz => absurd hz List.not_mem_nil) (by decide) (by decide) (S.2.2.2.2 (.classLink RL 30 xIO) (by decide +kernel)) (hG.2.2.2.2.1.2.2.use _ (by decide +kernel)) h1 h2 h3 ?_
    refine lv_astore_n (lv' := [(3, .ref q9), (0, .ref (ad 0)), (1, .int a1), (2, .ref (ad 83))]) S.1 S.2.1 dL_release_12 rfl hl (by decide) rfl (fun ls hl => ?_)
    refine lv_iconst (v := nI 1) S.1 S.2.1 dL_release_13 (by decide) ?_
    exact ret _ _ _ _ _ _ _ _ hG (Or.inr ⟨rfl, hE, rfl⟩) rfl (Nat.le_of_ble_eq_true rfl) (Nat.le_of_ble_eq_true rfl) dL_release_14
  · skip
    refine lv_i2l (v := r9.toInt64) S.1 S.2.1 dL_release_7 rfl ?_
    refine o_last S hG (j := 0) (by decide) (hJ _ _ hp) (by decide) dL_release_8 (kk := fun H locs hG => ?_)
    refine lv_goto (tgt := 15) S.1 S.2.1 dL_release_9 (by decide) ?_
    refine lv_iconst (v := nI 0) S.1 S.2.1 dL_release_15 (by decide) ?_
    exact ret _ _ _ _ _ _ _ _ hG (Or.inl ⟨rfl, r9, f9, hp, rfl⟩) rfl (Nat.le_of_ble_eq_true rfl) (Nat.le_of_ble_eq_true rfl) dL_release_16

set_option maxHeartbeats 4000000 in
set_option maxRecDepth 100000 in
theorem h_L_restore (l : Launch) (G : Gx) (ad : Nat → Nat) (s0 : Nat) (f : Nat → va_E) (a1 : Int32) (PX : String → Prop) (post : Int32 → (Nat → va_E) → Prop) {fs : List Value} {g : Nat → Int64} (hX : xI l yX2_restore wsX2_restore 8 152 2 12 [.ref (ad 0), .int a1] G 84 ad s0 f PX post) (h0 : f 0 = .inr (2, fs)) (hJ : ∀ r f', post r f' → f' 83 = eJ G 1 g) (hPX : ∀ E, PX E → E = xIO) : mI l yL_restore wsL_restore 9 173 2 12 [.ref (ad 0), .int a1, .ref (ad 83)] G 84 ad s0 f (fun r f' => (r = nI 0 ∧ ∃ w f1, post w f1 ∧ f' = va_up f1 83 (eJ G 1 (vp_updL g 0 w.toInt64))) ∨ (r = nI 1 ∧ PX xIO ∧ f' = f)) := by
  refine ov_hI (cc := cL_restore) (maxL := 4) (hh := [(0, 9, 12, 30)]) (by decide) rfl (Nat.le_of_ble_eq_true rfl) ?_
  intro p e s m below meth c av Q S htab ret hG ls hl
  have S : CallFix p m c cL_restore 4 s av wsL_restore RL := S
  have hl : lv_has ls 4 [(0, .ref (ad 0)), (1, .int a1), (2, .ref (ad 83))] := hl
  refine lv_aload_n S.1 S.2.1 dL_restore_0 rfl (lv_at hl 2 rfl) ?_
  refine lv_iconst (v := nI 0) S.1 S.2.1 dL_restore_1 (by decide) ?_
  refine lv_aload_n S.1 S.2.1 dL_restore_2 rfl (lv_at hl 0 rfl) ?_
  refine lv_iload_n S.1 S.2.1 dL_restore_3 rfl (lv_at hl 1 rfl) ?_
  refine o_xVi S (rest := [.int (nI 0), .ref (ad 83)]) hX (cwV 1 S.2.2.2.2 gL_restore_X2_restore rfl rfl rfl (by decide +kernel) ⟨(Nat.le_of_ble_eq_true rfl), (Nat.le_of_ble_eq_true rfl)⟩) hG (by decide) h0 rfl rfl hl.1 rfl (Nat.le_of_ble_eq_true rfl) dL_restore_4 ⟨(Nat.le_of_ble_eq_true rfl), (Nat.le_of_ble_eq_true rfl)⟩ (fun E ce q9 H locs hE hG h1 h2 h3 => ?_) (fun r9 f9 H locs hp hG => ?_)
  · skip
    obtain rfl := hPX E hE
    refine vx_catch (own := RL) (name := xIO) S.2.2.2.1 [] ⟨0, 9, 12, 30⟩ [] htab (fun z hz => absurd hz List.not_mem_nil) (by decide) (by decide) (S.2.2.2.2 (.classLink RL 30 xIO) (by decide +kernel)) (hG.2.2.2.2.1.2.2.use _ (by decide +kernel)) h1 h2 h3 ?_
    refine lv_astore_n (lv' := [(3, .ref q9), (0, .ref (ad 0)), (1, .int a1), (2, .ref (ad 83))]) S.1 S.2.1 dL_restore_12 rfl hl (by decide) rfl (fun ls hl => ?_)
    refine lv_iconst (v := nI 1) S.1 S.2.1 dL_restore_13 (by decide) ?_
    exact ret _ _ _ _ _ _ _ _ hG (Or.inr ⟨rfl, hE, rfl⟩) rfl (Nat.le_of_ble_eq_true rfl) (Nat.le_of_ble_eq_true rfl) dL_restore_14
  · skip
    refine lv_i2l (v := r9.toInt64) S.1 S.2.1 dL_restore_7 rfl ?_
    refine o_last S hG (j := 0) (by decide) (hJ _ _ hp) (by decide) dL_restore_8 (kk := fun H locs hG => ?_)
    refine lv_goto (tgt := 15) S.1 S.2.1 dL_restore_9 (by decide) ?_
    refine lv_iconst (v := nI 0) S.1 S.2.1 dL_restore_15 (by decide) ?_
    exact ret _ _ _ _ _ _ _ _ hG (Or.inl ⟨rfl, r9, f9, hp, rfl⟩) rfl (Nat.le_of_ble_eq_true rfl) (Nat.le_of_ble_eq_true rfl) dL_restore_16

set_option maxHeartbeats 4000000 in
set_option maxRecDepth 100000 in
theorem h_L_size (l : Launch) (G : Gx) (ad : Nat → Nat) (s0 : Nat) (f : Nat → va_E) (a1 : Int32) (PX : String → Prop) (post : Int32 → (Nat → va_E) → Prop) {fs : List Value} {g : Nat → Int64} (hX : xI l yX2_size wsX2_size 7 131 1 6 [.ref (ad 0), .int a1] G 84 ad s0 f PX post) (h0 : f 0 = .inr (2, fs)) (hJ : ∀ r f', post r f' → f' 83 = eJ G 1 g) (hPX : ∀ E, PX E → E = xIO) : mI l yL_size wsL_size 8 152 1 6 [.ref (ad 0), .int a1, .ref (ad 83)] G 84 ad s0 f (fun r f' => (r = nI 0 ∧ ∃ w f1, post w f1 ∧ f' = va_up f1 83 (eJ G 1 (vp_updL g 0 w.toInt64))) ∨ (r = nI 1 ∧ PX xIO ∧ f' = f)) := by
  refine ov_hI (cc := cL_size) (maxL := 4) (hh := [(0, 9, 12, 30)]) (by decide) rfl (Nat.le_of_ble_eq_true rfl) ?_
  intro p e s m below meth c av Q S htab ret hG ls hl
  have S : CallFix p m c cL_size 4 s av wsL_size RL := S
  have hl : lv_has ls 4 [(0, .ref (ad 0)), (1, .int a1), (2, .ref (ad 83))] := hl
  refine lv_aload_n S.1 S.2.1 dL_size_0 rfl (lv_at hl 2 rfl) ?_
  refine lv_iconst (v := nI 0) S.1 S.2.1 dL_size_1 (by decide) ?_
  refine lv_aload_n S.1 S.2.1 dL_size_2 rfl (lv_at hl 0 rfl) ?_
  refine lv_iload_n S.1 S.2.1 dL_size_3 rfl (lv_at hl 1 rfl) ?_
  refine o_xVi S (rest := [.int (nI 0), .ref (ad 83)]) hX (cwV 1 S.2.2.2.2 gL_size_X2_size rfl rfl rfl (by decide +kernel) ⟨(Nat.le_of_ble_eq_true rfl), (Nat.le_of_ble_eq_true rfl)⟩) hG (by decide) h0 rfl rfl hl.1 rfl (Nat.le_of_ble_eq_true rfl) dL_size_4 ⟨(Nat.le_of_ble_eq_true rfl), (Nat.le_of_ble_eq_true rfl)⟩ (fun E ce q9 H locs hE hG h1 h2 h3 => ?_) (fun r9 f9 H locs hp hG => ?_)
  · skip
    obtain rfl := hPX E hE
    refine vx_catch (own := RL) (name := xIO) S.2.2.2.1 [] ⟨0, 9, 12, 30⟩ [] htab (fun z hz => absurd hz List.not_mem_nil) (by decide) (by decide) (S.2.2.2.2 (.classLink RL 30 xIO) (by decide +kernel)) (hG.2.2.2.2.1.2.2.use _ (by decide +kernel)) h1 h2 h3 ?_
    refine lv_astore_n (lv' := [(3, .ref q9), (0, .ref (ad 0)), (1, .int a1), (2, .ref (ad 83))]) S.1 S.2.1 dL_size_12 rfl hl (by decide) rfl (fun ls hl => ?_)
    refine lv_iconst (v := nI 1) S.1 S.2.1 dL_size_13 (by decide) ?_
    exact ret _ _ _ _ _ _ _ _ hG (Or.inr ⟨rfl, hE, rfl⟩) rfl (Nat.le_of_ble_eq_true rfl) (Nat.le_of_ble_eq_true rfl) dL_size_14
  · skip
    refine lv_i2l (v := r9.toInt64) S.1 S.2.1 dL_size_7 rfl ?_
    refine o_last S hG (j := 0) (by decide) (hJ _ _ hp) (by decide) dL_size_8 (kk := fun H locs hG => ?_)
    refine lv_goto (tgt := 15) S.1 S.2.1 dL_size_9 (by decide) ?_
    refine lv_iconst (v := nI 0) S.1 S.2.1 dL_size_15 (by decide) ?_
    exact ret _ _ _ _ _ _ _ _ hG (Or.inl ⟨rfl, r9, f9, hp, rfl⟩) rfl (Nat.le_of_ble_eq_true rfl) (Nat.le_of_ble_eq_true rfl) dL_size_16

set_option maxHeartbeats 4000000 in
set_option maxRecDepth 100000 in
theorem h_L_get (l : Launch) (G : Gx) (ad : Nat → Nat) (s0 : Nat) (f : Nat → va_E) (a1 : Int32) (a2 : Int32) (PX : String → Prop) (post : Int32 → (Nat → va_E) → Prop) {fs : List Value} {g : Nat → Int64} (hX : xI l yX2_get wsX2_get 7 131 2 12 [.ref (ad 0), .int a1, .int a2] G 84 ad s0 f PX post) (h0 : f 0 = .inr (2, fs)) (hJ : ∀ r f', post r f' → f' 83 = eJ G 1 g) (hPX : ∀ E, PX E → E = xIO ∨ E = xNS) : mI l yL_get wsL_get 8 155 2 12 [.ref (ad 0), .int a1, .int a2, .ref (ad 83)] G 84 ad s0 f (fun r f' => (r = nI 0 ∧ ∃ w f1, post w f1 ∧ f' = va_up f1 83 (eJ G 1 (vp_updL g 0 w.toInt64))) ∨ (r = nI 1 ∧ PX xIO ∧ f' = f) ∨ (r = nI 2 ∧ PX xNS ∧ f' = f)) := by
  refine ov_hI (cc := cL_get) (maxL := 5) (hh := [(0, 10, 13, 30), (0, 10, 17, 19)]) (by decide) rfl (Nat.le_of_ble_eq_true rfl) ?_
  intro p e s m below meth c av Q S htab ret hG ls hl
  have S : CallFix p m c cL_get 5 s av wsL_get RL := S
  have hl : lv_has ls 5 [(0, .ref (ad 0)), (1, .int a1), (2, .int a2), (3, .ref (ad 83))] := hl
  refine lv_aload_n S.1 S.2.1 dL_get_0 rfl (lv_at hl 3 rfl) ?_
  refine lv_iconst (v := nI 0) S.1 S.2.1 dL_get_1 (by decide) ?_
  refine lv_aload_n S.1 S.2.1 dL_get_2 rfl (lv_at hl 0 rfl) ?_
  refine lv_iload_n S.1 S.2.1 dL_get_3 rfl (lv_at hl 1 rfl) ?_
  refine lv_iload_n S.1 S.2.1 dL_get_4 rfl (lv_at hl 2 rfl) ?_
  refine o_xVi S (rest := [.int (nI 0), .ref (ad 83)]) hX (cwV 2 S.2.2.2.2 gL_get_X2_get rfl rfl rfl (by decide +kernel) ⟨(Nat.le_of_ble_eq_true rfl), (Nat.le_of_ble_eq_true rfl)⟩) hG (by decide) h0 rfl rfl hl.1 rfl (Nat.le_of_ble_eq_true rfl) dL_get_5 ⟨(Nat.le_of_ble_eq_true rfl), (Nat.le_of_ble_eq_true rfl)⟩ (fun E ce q9 H locs hE hG h1 h2 h3 => ?_) (fun r9 f9 H locs hp hG => ?_)
  · skip
    rcases hPX E hE with rfl | rfl
    · skip
      refine vx_catch (own := RL) (name := xIO) S.2.2.2.1 [] ⟨0, 10, 13, 30⟩ [⟨0, 10, 17, 19⟩] htab (fun z hz => absurd hz List.not_mem_nil) (by decide) (by decide) (S.2.2.2.2 (.classLink RL 30 xIO) (by decide +kernel)) (hG.2.2.2.2.1.2.2.use _ (by decide +kernel)) h1 h2 h3 ?_
      refine lv_astore (lv' := [(4, .ref q9), (0, .ref (ad 0)), (1, .int a1), (2, .int a2), (3, .ref (ad 83))]) S.1 S.2.1 dL_get_13 hl (by decide) rfl (fun ls hl => ?_)
      refine lv_iconst (v := nI 1) S.1 S.2.1 dL_get_15 (by decide) ?_
      exact ret _ _ _ _ _ _ _ _ hG (Or.inr (Or.inl ⟨rfl, hE, rfl⟩)) rfl (Nat.le_of_ble_eq_true rfl) (Nat.le_of_ble_eq_true rfl) dL_get_16
    · skip
      refine vx_catch (own := RL) (name := xNS) S.2.2.2.1 [⟨0, 10, 13, 30⟩] ⟨0, 10, 17, 19⟩ [] htab (fun z hz => by rw [List.mem_singleton] at hz; subst hz; exact Or.inr ⟨by decide, xIO, S.2.2.2.2 (.classLink RL 30 xIO) (by decide +kernel), hG.2.2.2.2.1.2.2.2.2.2.1⟩) (by decide) (by decide) (S.2.2.2.2 (.classLink RL 19 xNS) (by decide +kernel)) (hG.2.2.2.2.1.2.2.use _ (by decide +kernel)) h1 h2 h3 ?_
      refine lv_astore (lv' := [(4, .ref q9), (0, .ref (ad 0)), (1, .int a1), (2, .int a2), (3, .ref (ad 83))]) S.1 S.2.1 dL_get_17 hl (by decide) rfl (fun ls hl => ?_)
      refine lv_iconst (v := nI 2) S.1 S.2.1 dL_get_19 (by decide) ?_
      exact ret _ _ _ _ _ _ _ _ hG (Or.inr (Or.inr ⟨rfl, hE, rfl⟩)) rfl (Nat.le_of_ble_eq_true rfl) (Nat.le_of_ble_eq_true rfl) dL_get_20
  · skip
    refine lv_i2l (v := r9.toInt64) S.1 S.2.1 dL_get_8 rfl ?_
    refine o_last S hG (j := 0) (by decide) (hJ _ _ hp) (by decide) dL_get_9 (kk := fun H locs hG => ?_)
    refine lv_goto (tgt := 21) S.1 S.2.1 dL_get_10 (by decide) ?_
    refine lv_iconst (v := nI 0) S.1 S.2.1 dL_get_21 (by decide) ?_
    exact ret _ _ _ _ _ _ _ _ hG (Or.inl ⟨rfl, r9, f9, hp, rfl⟩) rfl (Nat.le_of_ble_eq_true rfl) (Nat.le_of_ble_eq_true rfl) dL_get_22

set_option maxHeartbeats 4000000 in
set_option maxRecDepth 100000 in
theorem h_L_rank (l : Launch) (G : Gx) (ad : Nat → Nat) (s0 : Nat) (f : Nat → va_E) (a1 : Int32) (a2 : Int32) (PX : String → Prop) (post : Int32 → (Nat → va_E) → Prop) {fs : List Value} {g : Nat → Int64} (hX : xI l yX2_rank wsX2_rank 7 131 1 6 [.ref (ad 0), .int a1, .int a2] G 84 ad s0 f PX post) (h0 : f 0 = .inr (2, fs)) (hJ : ∀ r f', post r f' → f' 83 = eJ G 1 g) (hPX : ∀ E, PX E → E = xIO) : mI l yL_rank wsL_rank 8 153 1 6 [.ref (ad 0), .int a1, .int a2, .ref (ad 83)] G 84 ad s0 f (fun r f' => (r = nI 0 ∧ ∃ w f1, post w f1 ∧ f' = va_up f1 83 (eJ G 1 (vp_updL g 0 w.toInt64))) ∨ (r = nI 1 ∧ PX xIO ∧ f' = f)) := by
  refine ov_hI (cc := cL_rank) (maxL := 5) (hh := [(0, 10, 13, 30)]) (by decide) rfl (Nat.le_of_ble_eq_true rfl) ?_
  intro p e s m below meth c av Q S htab ret hG ls hl
  have S : CallFix p m c cL_rank 5 s av wsL_rank RL := S
  have hl : lv_has ls 5 [(0, .ref (ad 0)), (1, .int a1), (2, .int a2), (3, .ref (ad 83))] := hl
  refine lv_aload_n S.1 S.2.1 dL_rank_0 rfl (lv_at hl 3 rfl) ?_
  refine lv_iconst (v := nI 0) S.1 S.2.1 dL_rank_1 (by decide) ?_
  refine lv_aload_n S.1 S.2.1 dL_rank_2 rfl (lv_at hl 0 rfl) ?_
  refine lv_iload_n S.1 S.2.1 dL_rank_3 rfl (lv_at hl 1 rfl) ?_
  refine lv_iload_n S.1 S.2.1 dL_rank_4 rfl (lv_at hl 2 rfl) ?_
  refine o_xVi S (rest := [.int (nI 0), .ref (ad 83)]) hX (cwV 2 S.2.2.2.2 gL_rank_X2_rank rfl rfl rfl (by decide +kernel) ⟨(Nat.le_of_ble_eq_true rfl), (Nat.le_of_ble_eq_true rfl)⟩) hG (by decide) h0 rfl rfl hl.1 rfl (Nat.le_of_ble_eq_true rfl) dL_rank_5 ⟨(Nat.le_of_ble_eq_true rfl), (Nat.le_of_ble_eq_true rfl)⟩ (fun E ce q9 H locs hE hG h1 h2 h3 => ?_) (fun r9 f9 H locs hp hG => ?_)
  · skip
    obtain rfl := hPX E hE
    refine vx_catch (own := RL) (name := xIO) S.2.2.2.1 [] ⟨0, 10, 13, 30⟩ [] htab (fun z hz => absurd hz List.not_mem_nil) (by decide) (by decide) (S.2.2.2.2 (.classLink RL 30 xIO) (by decide +kernel)) (hG.2.2.2.2.1.2.2.use _ (by decide +kernel)) h1 h2 h3 ?_
    refine lv_astore (lv' := [(4, .ref q9), (0, .ref (ad 0)), (1, .int a1), (2, .int a2), (3, .ref (ad 83))]) S.1 S.2.1 dL_rank_13 hl (by decide) rfl (fun ls hl => ?_)
    refine lv_iconst (v := nI 1) S.1 S.2.1 dL_rank_15 (by decide) ?_
    exact ret _ _ _ _ _ _ _ _ hG (Or.inr ⟨rfl, hE, rfl⟩) rfl (Nat.le_of_ble_eq_true rfl) (Nat.le_of_ble_eq_true rfl) dL_rank_16
  · skip
    refine lv_i2l (v := r9.toInt64) S.1 S.2.1 dL_rank_8 rfl ?_
    refine o_last S hG (j := 0) (by decide) (hJ _ _ hp) (by decide) dL_rank_9 (kk := fun H locs hG => ?_)
    refine lv_goto (tgt := 17) S.1 S.2.1 dL_rank_10 (by decide) ?_
    refine lv_iconst (v := nI 0) S.1 S.2.1 dL_rank_17 (by decide) ?_
    exact ret _ _ _ _ _ _ _ _ hG (Or.inl ⟨rfl, r9, f9, hp, rfl⟩) rfl (Nat.le_of_ble_eq_true rfl) (Nat.le_of_ble_eq_true rfl) dL_rank_18

set_option maxHeartbeats 4000000 in
set_option maxRecDepth 100000 in
theorem h_L_select (l : Launch) (G : Gx) (ad : Nat → Nat) (s0 : Nat) (f : Nat → va_E) (a1 : Int32) (a2 : Int32) (PX : String → Prop) (post : Int32 → (Nat → va_E) → Prop) {fs : List Value} {g : Nat → Int64} (hX : xI l yX2_select wsX2_select 7 131 2 12 [.ref (ad 0), .int a1, .int a2] G 84 ad s0 f PX post) (h0 : f 0 = .inr (2, fs)) (hJ : ∀ r f', post r f' → f' 83 = eJ G 1 g) (hPX : ∀ E, PX E → E = xIO ∨ E = xNS) : mI l yL_select wsL_select 8 153 2 12 [.ref (ad 0), .int a1, .int a2, .ref (ad 83)] G 84 ad s0 f (fun r f' => (r = nI 0 ∧ ∃ w f1, post w f1 ∧ f' = va_up f1 83 (eJ G 1 (vp_updL g 0 w.toInt64))) ∨ (r = nI 1 ∧ PX xIO ∧ f' = f) ∨ (r = nI 2 ∧ PX xNS ∧ f' = f)) := by
  refine ov_hI (cc := cL_select) (maxL := 5) (hh := [(0, 10, 13, 30), (0, 10, 17, 19)]) (by decide) rfl (Nat.le_of_ble_eq_true rfl) ?_
  intro p e s m below meth c av Q S htab ret hG ls hl
  have S : CallFix p m c cL_select 5 s av wsL_select RL := S
  have hl : lv_has ls 5 [(0, .ref (ad 0)), (1, .int a1), (2, .int a2), (3, .ref (ad 83))] := hl
  refine lv_aload_n S.1 S.2.1 dL_select_0 rfl (lv_at hl 3 rfl) ?_
  refine lv_iconst (v := nI 0) S.1 S.2.1 dL_select_1 (by decide) ?_
  refine lv_aload_n S.1 S.2.1 dL_select_2 rfl (lv_at hl 0 rfl) ?_
  refine lv_iload_n S.1 S.2.1 dL_select_3 rfl (lv_at hl 1 rfl) ?_
  refine lv_iload_n S.1 S.2.1 dL_select_4 rfl (lv_at hl 2 rfl) ?_
  refine o_xVi S (rest := [.int (nI 0), .ref (ad 83)]) hX (cwV 2 S.2.2.2.2 gL_select_X2_select rfl rfl rfl (by decide +kernel) ⟨(Nat.le_of_ble_eq_true rfl), (Nat.le_of_ble_eq_true rfl)⟩) hG (by decide) h0 rfl rfl hl.1 rfl (Nat.le_of_ble_eq_true rfl) dL_select_5 ⟨(Nat.le_of_ble_eq_true rfl), (Nat.le_of_ble_eq_true rfl)⟩ (fun E ce q9 H locs hE hG h1 h2 h3 => ?_) (fun r9 f9 H locs hp hG => ?_)
  · skip
    rcases hPX E hE with rfl | rfl
    · skip
      refine vx_catch (own := RL) (name := xIO) S.2.2.2.1 [] ⟨0, 10, 13, 30⟩ [⟨0, 10, 17, 19⟩] htab (fun z hz => absurd hz List.not_mem_nil) (by decide) (by decide) (S.2.2.2.2 (.classLink RL 30 xIO) (by decide +kernel)) (hG.2.2.2.2.1.2.2.use _ (by decide +kernel)) h1 h2 h3 ?_
      refine lv_astore (lv' := [(4, .ref q9), (0, .ref (ad 0)), (1, .int a1), (2, .int a2), (3, .ref (ad 83))]) S.1 S.2.1 dL_select_13 hl (by decide) rfl (fun ls hl => ?_)
      refine lv_iconst (v := nI 1) S.1 S.2.1 dL_select_15 (by decide) ?_
      exact ret _ _ _ _ _ _ _ _ hG (Or.inr (Or.inl ⟨rfl, hE, rfl⟩)) rfl (Nat.le_of_ble_eq_true rfl) (Nat.le_of_ble_eq_true rfl) dL_select_16
    · skip
      refine vx_catch (own := RL) (name := xNS) S.2.2.2.1 [⟨0, 10, 13, 30⟩] ⟨0, 10, 17, 19⟩ [] htab (fun z hz => by rw [List.mem_singleton] at hz; subst hz; exact Or.inr ⟨by decide, xIO, S.2.2.2.2 (.classLink RL 30 xIO) (by decide +kernel), hG.2.2.2.2.1.2.2.2.2.2.1⟩) (by decide) (by decide) (S.2.2.2.2 (.classLink RL 19 xNS) (by decide +kernel)) (hG.2.2.2.2.1.2.2.use _ (by decide +kernel)) h1 h2 h3 ?_
      refine lv_astore (lv' := [(4, .ref q9), (0, .ref (ad 0)), (1, .int a1), (2, .int a2), (3, .ref (ad 83))]) S.1 S.2.1 dL_select_17 hl (by decide) rfl (fun ls hl => ?_)
      refine lv_iconst (v := nI 2) S.1 S.2.1 dL_select_19 (by decide) ?_
      exact ret _ _ _ _ _ _ _ _ hG (Or.inr (Or.inr ⟨rfl, hE, rfl⟩)) rfl (Nat.le_of_ble_eq_true rfl) (Nat.le_of_ble_eq_true rfl) dL_select_20
  · skip
    refine lv_i2l (v := r9.toInt64) S.1 S.2.1 dL_select_8 rfl ?_
    refine o_last S hG (j := 0) (by decide) (hJ _ _ hp) (by decide) dL_select_9 (kk := fun H locs hG => ?_)
    refine lv_goto (tgt := 21) S.1 S.2.1 dL_select_10 (by decide) ?_
    refine lv_iconst (v := nI 0) S.1 S.2.1 dL_select_21 (by decide) ?_
    exact ret _ _ _ _ _ _ _ _ hG (Or.inl ⟨rfl, r9, f9, hp, rfl⟩) rfl (Nat.le_of_ble_eq_true rfl) (Nat.le_of_ble_eq_true rfl) dL_select_22

set_option maxHeartbeats 4000000 in
set_option maxRecDepth 100000 in
theorem h_L_near (l : Launch) (G : Gx) (ad : Nat → Nat) (s0 : Nat) (f : Nat → va_E) (a1 : Int32) (a2 : Int32) (a3 : Bool) (PX : String → Prop) (post : Int32 → (Nat → va_E) → Prop) {fs : List Value} {g : Nat → Int64} (hX : xI l yX2_near wsX2_near 7 131 2 12 [.ref (ad 0), .int a1, .int a2, .int (bI a3)] G 84 ad s0 f PX post) (h0 : f 0 = .inr (2, fs)) (hJ : ∀ r f', post r f' → f' 83 = eJ G 1 g) (hPX : ∀ E, PX E → E = xIO ∨ E = xNS) : mI l yL_near wsL_near 8 155 2 12 [.ref (ad 0), .int a1, .int a2, .int (bI a3), .ref (ad 83)] G 84 ad s0 f (fun r f' => (r = nI 0 ∧ ∃ w f1, post w f1 ∧ f' = va_up f1 83 (eJ G 1 (vp_updL g 0 w.toInt64))) ∨ (r = nI 1 ∧ PX xIO ∧ f' = f) ∨ (r = nI 2 ∧ PX xNS ∧ f' = f)) := by
  refine ov_hI (cc := cL_near) (maxL := 6) (hh := [(0, 12, 15, 30), (0, 12, 19, 19)]) (by decide) rfl (Nat.le_of_ble_eq_true rfl) ?_
  intro p e s m below meth c av Q S htab ret hG ls hl
  have S : CallFix p m c cL_near 6 s av wsL_near RL := S
  have hl : lv_has ls 6 [(0, .ref (ad 0)), (1, .int a1), (2, .int a2), (3, .int (bI a3)), (4, .ref (ad 83))] := hl
  refine lv_aload S.1 S.2.1 dL_near_0 (lv_at hl 4 rfl) ?_
  refine lv_iconst (v := nI 0) S.1 S.2.1 dL_near_2 (by decide) ?_
  refine lv_aload_n S.1 S.2.1 dL_near_3 rfl (lv_at hl 0 rfl) ?_
  refine lv_iload_n S.1 S.2.1 dL_near_4 rfl (lv_at hl 1 rfl) ?_
  refine lv_iload_n S.1 S.2.1 dL_near_5 rfl (lv_at hl 2 rfl) ?_
  refine lv_iload_n S.1 S.2.1 dL_near_6 rfl (lv_at hl 3 rfl) ?_
  refine o_xVi S (rest := [.int (nI 0), .ref (ad 83)]) hX (cwV 3 S.2.2.2.2 gL_near_X2_near rfl rfl rfl (by decide +kernel) ⟨(Nat.le_of_ble_eq_true rfl), (Nat.le_of_ble_eq_true rfl)⟩) hG (by decide) h0 rfl rfl hl.1 rfl (Nat.le_of_ble_eq_true rfl) dL_near_7 ⟨(Nat.le_of_ble_eq_true rfl), (Nat.le_of_ble_eq_true rfl)⟩ (fun E ce q9 H locs hE hG h1 h2 h3 => ?_) (fun r9 f9 H locs hp hG => ?_)
  · skip
    rcases hPX E hE with rfl | rfl
    · skip
      refine vx_catch (own := RL) (name := xIO) S.2.2.2.1 [] ⟨0, 12, 15, 30⟩ [⟨0, 12, 19, 19⟩] htab (fun z hz => absurd hz List.not_mem_nil) (by decide) (by decide) (S.2.2.2.2 (.classLink RL 30 xIO) (by decide +kernel)) (hG.2.2.2.2.1.2.2.use _ (by decide +kernel)) h1 h2 h3 ?_
      refine lv_astore (lv' := [(5, .ref q9), (0, .ref (ad 0)), (1, .int a1), (2, .int a2), (3, .int (bI a3)), (4, .ref (ad 83))]) S.1 S.2.1 dL_near_15 hl (by decide) rfl (fun ls hl => ?_)
      refine lv_iconst (v := nI 1) S.1 S.2.1 dL_near_17 (by decide) ?_
      exact ret _ _ _ _ _ _ _ _ hG (Or.inr (Or.inl ⟨rfl, hE, rfl⟩)) rfl (Nat.le_of_ble_eq_true rfl) (Nat.le_of_ble_eq_true rfl) dL_near_18
    · skip
      refine vx_catch (own := RL) (name := xNS) S.2.2.2.1 [⟨0, 12, 15, 30⟩] ⟨0, 12, 19, 19⟩ [] htab (fun z hz => by rw [List.mem_singleton] at hz; subst hz; exact Or.inr ⟨by decide, xIO, S.2.2.2.2 (.classLink RL 30 xIO) (by decide +kernel), hG.2.2.2.2.1.2.2.2.2.2.1⟩) (by decide) (by decide) (S.2.2.2.2 (.classLink RL 19 xNS) (by decide +kernel)) (hG.2.2.2.2.1.2.2.use _ (by decide +kernel)) h1 h2 h3 ?_
      refine lv_astore (lv' := [(5, .ref q9), (0, .ref (ad 0)), (1, .int a1), (2, .int a2), (3, .int (bI a3)), (4, .ref (ad 83))]) S.1 S.2.1 dL_near_19 hl (by decide) rfl (fun ls hl => ?_)
      refine lv_iconst (v := nI 2) S.1 S.2.1 dL_near_21 (by decide) ?_
      exact ret _ _ _ _ _ _ _ _ hG (Or.inr (Or.inr ⟨rfl, hE, rfl⟩)) rfl (Nat.le_of_ble_eq_true rfl) (Nat.le_of_ble_eq_true rfl) dL_near_22
  · skip
    refine lv_i2l (v := r9.toInt64) S.1 S.2.1 dL_near_10 rfl ?_
    refine o_last S hG (j := 0) (by decide) (hJ _ _ hp) (by decide) dL_near_11 (kk := fun H locs hG => ?_)
    refine lv_goto (tgt := 23) S.1 S.2.1 dL_near_12 (by decide) ?_
    refine lv_iconst (v := nI 0) S.1 S.2.1 dL_near_23 (by decide) ?_
    exact ret _ _ _ _ _ _ _ _ hG (Or.inl ⟨rfl, r9, f9, hp, rfl⟩) rfl (Nat.le_of_ble_eq_true rfl) (Nat.le_of_ble_eq_true rfl) dL_near_24

set_option maxHeartbeats 4000000 in
set_option maxRecDepth 100000 in
theorem h_L_sum (l : Launch) (G : Gx) (ad : Nat → Nat) (s0 : Nat) (f : Nat → va_E) (a1 : Int32) (a2 : Int32) (a3 : Int32) (PX : String → Prop) (post : Int64 → (Nat → va_E) → Prop) {fs : List Value} {g : Nat → Int64} (hX : xL l yX2_sum wsX2_sum 7 131 1 6 [.ref (ad 0), .int a1, .int a2, .int a3] G 84 ad s0 f PX post) (h0 : f 0 = .inr (2, fs)) (hJ : ∀ r f', post r f' → f' 83 = eJ G 1 g) (hPX : ∀ E, PX E → E = xIO) : mI l yL_sum wsL_sum 8 159 1 6 [.ref (ad 0), .int a1, .int a2, .int a3, .ref (ad 83)] G 84 ad s0 f (fun r f' => (r = nI 0 ∧ ∃ w f1, post w f1 ∧ f' = va_up f1 83 (eJ G 1 (vp_updL g 0 w))) ∨ (r = nI 1 ∧ PX xIO ∧ f' = f)) := by
  refine ov_hI (cc := cL_sum) (maxL := 6) (hh := [(0, 11, 14, 30)]) (by decide) rfl (Nat.le_of_ble_eq_true rfl) ?_
  intro p e s m below meth c av Q S htab ret hG ls hl
  have S : CallFix p m c cL_sum 6 s av wsL_sum RL := S
  have hl : lv_has ls 6 [(0, .ref (ad 0)), (1, .int a1), (2, .int a2), (3, .int a3), (4, .ref (ad 83))] := hl
  refine lv_aload S.1 S.2.1 dL_sum_0 (lv_at hl 4 rfl) ?_
  refine lv_iconst (v := nI 0) S.1 S.2.1 dL_sum_2 (by decide) ?_
  refine lv_aload_n S.1 S.2.1 dL_sum_3 rfl (lv_at hl 0 rfl) ?_
  refine lv_iload_n S.1 S.2.1 dL_sum_4 rfl (lv_at hl 1 rfl) ?_
  refine lv_iload_n S.1 S.2.1 dL_sum_5 rfl (lv_at hl 2 rfl) ?_
  refine lv_iload_n S.1 S.2.1 dL_sum_6 rfl (lv_at hl 3 rfl) ?_
  refine o_xVl S (rest := [.int (nI 0), .ref (ad 83)]) hX (cwV 3 S.2.2.2.2 gL_sum_X2_sum rfl rfl rfl (by decide +kernel) ⟨(Nat.le_of_ble_eq_true rfl), (Nat.le_of_ble_eq_true rfl)⟩) hG (by decide) h0 rfl rfl hl.1 rfl (Nat.le_of_ble_eq_true rfl) dL_sum_7 ⟨(Nat.le_of_ble_eq_true rfl), (Nat.le_of_ble_eq_true rfl)⟩ (fun E ce q9 H locs hE hG h1 h2 h3 => ?_) (fun r9 f9 H locs hp hG => ?_)
  · skip
    obtain rfl := hPX E hE
    refine vx_catch (own := RL) (name := xIO) S.2.2.2.1 [] ⟨0, 11, 14, 30⟩ [] htab (fun z hz => absurd hz List.not_mem_nil) (by decide) (by decide) (S.2.2.2.2 (.classLink RL 30 xIO) (by decide +kernel)) (hG.2.2.2.2.1.2.2.use _ (by decide +kernel)) h1 h2 h3 ?_
    refine lv_astore (lv' := [(5, .ref q9), (0, .ref (ad 0)), (1, .int a1), (2, .int a2), (3, .int a3), (4, .ref (ad 83))]) S.1 S.2.1 dL_sum_14 hl (by decide) rfl (fun ls hl => ?_)
    refine lv_iconst (v := nI 1) S.1 S.2.1 dL_sum_16 (by decide) ?_
    exact ret _ _ _ _ _ _ _ _ hG (Or.inr ⟨rfl, hE, rfl⟩) rfl (Nat.le_of_ble_eq_true rfl) (Nat.le_of_ble_eq_true rfl) dL_sum_17
  · skip
    refine o_last S hG (j := 0) (by decide) (hJ _ _ hp) (by decide) dL_sum_10 (kk := fun H locs hG => ?_)
    refine lv_goto (tgt := 18) S.1 S.2.1 dL_sum_11 (by decide) ?_
    refine lv_iconst (v := nI 0) S.1 S.2.1 dL_sum_18 (by decide) ?_
    exact ret _ _ _ _ _ _ _ _ hG (Or.inl ⟨rfl, r9, f9, hp, rfl⟩) rfl (Nat.le_of_ble_eq_true rfl) (Nat.le_of_ble_eq_true rfl) dL_sum_19

set_option maxHeartbeats 4000000 in
set_option maxRecDepth 100000 in
theorem h_L_greatest (l : Launch) (G : Gx) (ad : Nat → Nat) (s0 : Nat) (f : Nat → va_E) (a1 : Int32) (a2 : Int32) (a3 : Int32) (PX : String → Prop) (post : Int32 → (Nat → va_E) → Prop) {fs : List Value} {g : Nat → Int64} (hX : xI l yX2_greatest wsX2_greatest 7 131 2 12 [.ref (ad 0), .int a1, .int a2, .int a3] G 84 ad s0 f PX post) (h0 : f 0 = .inr (2, fs)) (hJ : ∀ r f', post r f' → f' 83 = eJ G 1 g) (hPX : ∀ E, PX E → E = xIO ∨ E = xNS) : mI l yL_greatest wsL_greatest 8 159 2 12 [.ref (ad 0), .int a1, .int a2, .int a3, .ref (ad 83)] G 84 ad s0 f (fun r f' => (r = nI 0 ∧ ∃ w f1, post w f1 ∧ f' = va_up f1 83 (eJ G 1 (vp_updL g 0 w.toInt64))) ∨ (r = nI 1 ∧ PX xIO ∧ f' = f) ∨ (r = nI 2 ∧ PX xNS ∧ f' = f)) := by
  refine ov_hI (cc := cL_greatest) (maxL := 6) (hh := [(0, 12, 15, 30), (0, 12, 19, 19)]) (by decide) rfl (Nat.le_of_ble_eq_true rfl) ?_
  intro p e s m below meth c av Q S htab ret hG ls hl
  have S : CallFix p m c cL_greatest 6 s av wsL_greatest RL := S
  have hl : lv_has ls 6 [(0, .ref (ad 0)), (1, .int a1), (2, .int a2), (3, .int a3), (4, .ref (ad 83))] := hl
  refine lv_aload S.1 S.2.1 dL_greatest_0 (lv_at hl 4 rfl) ?_
  refine lv_iconst (v := nI 0) S.1 S.2.1 dL_greatest_2 (by decide) ?_
  refine lv_aload_n S.1 S.2.1 dL_greatest_3 rfl (lv_at hl 0 rfl) ?_
  refine lv_iload_n S.1 S.2.1 dL_greatest_4 rfl (lv_at hl 1 rfl) ?_
  refine lv_iload_n S.1 S.2.1 dL_greatest_5 rfl (lv_at hl 2 rfl) ?_
  refine lv_iload_n S.1 S.2.1 dL_greatest_6 rfl (lv_at hl 3 rfl) ?_
  refine o_xVi S (rest := [.int (nI 0), .ref (ad 83)]) hX (cwV 3 S.2.2.2.2 gL_greatest_X2_greatest rfl rfl rfl (by decide +kernel) ⟨(Nat.le_of_ble_eq_true rfl), (Nat.le_of_ble_eq_true rfl)⟩) hG (by decide) h0 rfl rfl hl.1 rfl (Nat.le_of_ble_eq_true rfl) dL_greatest_7 ⟨(Nat.le_of_ble_eq_true rfl), (Nat.le_of_ble_eq_true rfl)⟩ (fun E ce q9 H locs hE hG h1 h2 h3 => ?_) (fun r9 f9 H locs hp hG => ?_)
  · skip
    rcases hPX E hE with rfl | rfl
    · skip
      refine vx_catch (own := RL) (name := xIO) S.2.2.2.1 [] ⟨0, 12, 15, 30⟩ [⟨0, 12, 19, 19⟩] htab (fun z hz => absurd hz List.not_mem_nil) (by decide) (by decide) (S.2.2.2.2 (.classLink RL 30 xIO) (by decide +kernel)) (hG.2.2.2.2.1.2.2.use _ (by decide +kernel)) h1 h2 h3 ?_
      refine lv_astore (lv' := [(5, .ref q9), (0, .ref (ad 0)), (1, .int a1), (2, .int a2), (3, .int a3), (4, .ref (ad 83))]) S.1 S.2.1 dL_greatest_15 hl (by decide) rfl (fun ls hl => ?_)
      refine lv_iconst (v := nI 1) S.1 S.2.1 dL_greatest_17 (by decide) ?_
      exact ret _ _ _ _ _ _ _ _ hG (Or.inr (Or.inl ⟨rfl, hE, rfl⟩)) rfl (Nat.le_of_ble_eq_true rfl) (Nat.le_of_ble_eq_true rfl) dL_greatest_18
    · skip
      refine vx_catch (own := RL) (name := xNS) S.2.2.2.1 [⟨0, 12, 15, 30⟩] ⟨0, 12, 19, 19⟩ [] htab (fun z hz => by rw [List.mem_singleton] at hz; subst hz; exact Or.inr ⟨by decide, xIO, S.2.2.2.2 (.classLink RL 30 xIO) (by decide +kernel), hG.2.2.2.2.1.2.2.2.2.2.1⟩) (by decide) (by decide) (S.2.2.2.2 (.classLink RL 19 xNS) (by decide +kernel)) (hG.2.2.2.2.1.2.2.use _ (by decide +kernel)) h1 h2 h3 ?_
      refine lv_astore (lv' := [(5, .ref q9), (0, .ref (ad 0)), (1, .int a1), (2, .int a2), (3, .int a3), (4, .ref (ad 83))]) S.1 S.2.1 dL_greatest_19 hl (by decide) rfl (fun ls hl => ?_)
      refine lv_iconst (v := nI 2) S.1 S.2.1 dL_greatest_21 (by decide) ?_
      exact ret _ _ _ _ _ _ _ _ hG (Or.inr (Or.inr ⟨rfl, hE, rfl⟩)) rfl (Nat.le_of_ble_eq_true rfl) (Nat.le_of_ble_eq_true rfl) dL_greatest_22
  · skip
    refine lv_i2l (v := r9.toInt64) S.1 S.2.1 dL_greatest_10 rfl ?_
    refine o_last S hG (j := 0) (by decide) (hJ _ _ hp) (by decide) dL_greatest_11 (kk := fun H locs hG => ?_)
    refine lv_goto (tgt := 23) S.1 S.2.1 dL_greatest_12 (by decide) ?_
    refine lv_iconst (v := nI 0) S.1 S.2.1 dL_greatest_23 (by decide) ?_
    exact ret _ _ _ _ _ _ _ _ hG (Or.inl ⟨rfl, r9, f9, hp, rfl⟩) rfl (Nat.le_of_ble_eq_true rfl) (Nat.le_of_ble_eq_true rfl) dL_greatest_24

set_option maxHeartbeats 4000000 in
set_option maxRecDepth 100000 in
theorem h_L_differs (l : Launch) (G : Gx) (ad : Nat → Nat) (s0 : Nat) (f : Nat → va_E) (a1 : Int32) (a2 : Int32) (PX : String → Prop) (post : Int32 → (Nat → va_E) → Prop) {fs : List Value} {g : Nat → Int64} (hX : xI l yX2_differs wsX2_differs 7 131 2 12 [.ref (ad 0), .int a1, .int a2] G 84 ad s0 f PX post) (h0 : f 0 = .inr (2, fs)) (hJ : ∀ r f', post r f' → f' 83 = eJ G 1 g) (hPX : ∀ E, PX E → E = xIO) : mI l yL_differs wsL_differs 8 155 2 12 [.ref (ad 0), .int a1, .int a2, .ref (ad 83)] G 84 ad s0 f (fun r f' => (r = nI 0 ∧ ∃ w f1, post w f1 ∧ f' = va_up f1 83 (eJ G 1 (vp_updL g 0 w.toInt64))) ∨ (r = nI 1 ∧ PX xIO ∧ f' = f)) := by
  refine ov_hI (cc := cL_differs) (maxL := 5) (hh := [(0, 10, 13, 30)]) (by decide) rfl (Nat.le_of_ble_eq_true rfl) ?_
  intro p e s m below meth c av Q S htab ret hG ls hl
  have S : CallFix p m c cL_differs 5 s av wsL_differs RL := S
  have hl : lv_has ls 5 [(0, .ref (ad 0)), (1, .int a1), (2, .int a2), (3, .ref (ad 83))] := hl
  refine lv_aload_n S.1 S.2.1 dL_differs_0 rfl (lv_at hl 3 rfl) ?_
  refine lv_iconst (v := nI 0) S.1 S.2.1 dL_differs_1 (by decide) ?_
  refine lv_aload_n S.1 S.2.1 dL_differs_2 rfl (lv_at hl 0 rfl) ?_
  refine lv_iload_n S.1 S.2.1 dL_differs_3 rfl (lv_at hl 1 rfl) ?_
  refine lv_iload_n S.1 S.2.1 dL_differs_4 rfl (lv_at hl 2 rfl) ?_
  refine o_xVi S (rest := [.int (nI 0), .ref (ad 83)]) hX (cwV 2 S.2.2.2.2 gL_differs_X2_differs rfl rfl rfl (by decide +kernel) ⟨(Nat.le_of_ble_eq_true rfl), (Nat.le_of_ble_eq_true rfl)⟩) hG (by decide) h0 rfl rfl hl.1 rfl (Nat.le_of_ble_eq_true rfl) dL_differs_5 ⟨(Nat.le_of_ble_eq_true rfl), (Nat.le_of_ble_eq_true rfl)⟩ (fun E ce q9 H locs hE hG h1 h2 h3 => ?_) (fun r9 f9 H locs hp hG => ?_)
  · skip
    obtain rfl := hPX E hE
    refine vx_catch (own := RL) (name := xIO) S.2.2.2.1 [] ⟨0, 10, 13, 30⟩ [] htab (fun z hz => absurd hz List.not_mem_nil) (by decide) (by decide) (S.2.2.2.2 (.classLink RL 30 xIO) (by decide +kernel)) (hG.2.2.2.2.1.2.2.use _ (by decide +kernel)) h1 h2 h3 ?_
    refine lv_astore (lv' := [(4, .ref q9), (0, .ref (ad 0)), (1, .int a1), (2, .int a2), (3, .ref (ad 83))]) S.1 S.2.1 dL_differs_13 hl (by decide) rfl (fun ls hl => ?_)
    refine lv_iconst (v := nI 1) S.1 S.2.1 dL_differs_15 (by decide) ?_
    exact ret _ _ _ _ _ _ _ _ hG (Or.inr ⟨rfl, hE, rfl⟩) rfl (Nat.le_of_ble_eq_true rfl) (Nat.le_of_ble_eq_true rfl) dL_differs_16
  · skip
    refine lv_i2l (v := r9.toInt64) S.1 S.2.1 dL_differs_8 rfl ?_
    refine o_last S hG (j := 0) (by decide) (hJ _ _ hp) (by decide) dL_differs_9 (kk := fun H locs hG => ?_)
    refine lv_goto (tgt := 17) S.1 S.2.1 dL_differs_10 (by decide) ?_
    refine lv_iconst (v := nI 0) S.1 S.2.1 dL_differs_17 (by decide) ?_
    exact ret _ _ _ _ _ _ _ _ hG (Or.inl ⟨rfl, r9, f9, hp, rfl⟩) rfl (Nat.le_of_ble_eq_true rfl) (Nat.le_of_ble_eq_true rfl) dL_differs_18

set_option maxHeartbeats 4000000 in
set_option maxRecDepth 100000 in
theorem h_L_firstDifference (l : Launch) (G : Gx) (ad : Nat → Nat) (s0 : Nat) (f : Nat → va_E) (a1 : Int32) (a2 : Int32) (PX : String → Prop) (post : Int32 → (Nat → va_E) → Prop) {fs : List Value} {g : Nat → Int64} (hX : xI l yX2_firstDifference wsX2_firstDifference 7 131 3 18 [.ref (ad 0), .int a1, .int a2] G 84 ad s0 f PX post) (h0 : f 0 = .inr (2, fs)) (hJ : ∀ r f', post r f' → f' 83 = eJ G 1 g) (hPX : ∀ E, PX E → E = xIO ∨ E = xNS) : mI l yL_firstDifference wsL_firstDifference 8 156 3 18 [.ref (ad 0), .int a1, .int a2, .ref (ad 83)] G 84 ad s0 f (fun r f' => (r = nI 0 ∧ ∃ w f1, post w f1 ∧ f' = va_up f1 83 (eJ G 1 (vp_updL g 0 w.toInt64))) ∨ (r = nI 1 ∧ PX xIO ∧ f' = f) ∨ (r = nI 2 ∧ PX xNS ∧ f' = f)) := by
  refine ov_hI (cc := cL_firstDifference) (maxL := 5) (hh := [(0, 10, 13, 30), (0, 10, 17, 19)]) (by decide) rfl (Nat.le_of_ble_eq_true rfl) ?_
  intro p e s m below meth c av Q S htab ret hG ls hl
  have S : CallFix p m c cL_firstDifference 5 s av wsL_firstDifference RL := S
  have hl : lv_has ls 5 [(0, .ref (ad 0)), (1, .int a1), (2, .int a2), (3, .ref (ad 83))] := hl
  refine lv_aload_n S.1 S.2.1 dL_firstDifference_0 rfl (lv_at hl 3 rfl) ?_
  refine lv_iconst (v := nI 0) S.1 S.2.1 dL_firstDifference_1 (by decide) ?_
  refine lv_aload_n S.1 S.2.1 dL_firstDifference_2 rfl (lv_at hl 0 rfl) ?_
  refine lv_iload_n S.1 S.2.1 dL_firstDifference_3 rfl (lv_at hl 1 rfl) ?_
  refine lv_iload_n S.1 S.2.1 dL_firstDifference_4 rfl (lv_at hl 2 rfl) ?_
  refine o_xVi S (rest := [.int (nI 0), .ref (ad 83)]) hX (cwV 2 S.2.2.2.2 gL_firstDifference_X2_firstDifference rfl rfl rfl (by decide +kernel) ⟨(Nat.le_of_ble_eq_true rfl), (Nat.le_of_ble_eq_true rfl)⟩) hG (by decide) h0 rfl rfl hl.1 rfl (Nat.le_of_ble_eq_true rfl) dL_firstDifference_5 ⟨(Nat.le_of_ble_eq_true rfl), (Nat.le_of_ble_eq_true rfl)⟩ (fun E ce q9 H locs hE hG h1 h2 h3 => ?_) (fun r9 f9 H locs hp hG => ?_)
  · skip
    rcases hPX E hE with rfl | rfl
    · skip
      refine vx_catch (own := RL) (name := xIO) S.2.2.2.1 [] ⟨0, 10, 13, 30⟩ [⟨0, 10, 17, 19⟩] htab (fun z hz => absurd hz List.not_mem_nil) (by decide) (by decide) (S.2.2.2.2 (.classLink RL 30 xIO) (by decide +kernel)) (hG.2.2.2.2.1.2.2.use _ (by decide +kernel)) h1 h2 h3 ?_
      refine lv_astore (lv' := [(4, .ref q9), (0, .ref (ad 0)), (1, .int a1), (2, .int a2), (3, .ref (ad 83))]) S.1 S.2.1 dL_firstDifference_13 hl (by decide) rfl (fun ls hl => ?_)
      refine lv_iconst (v := nI 1) S.1 S.2.1 dL_firstDifference_15 (by decide) ?_
      exact ret _ _ _ _ _ _ _ _ hG (Or.inr (Or.inl ⟨rfl, hE, rfl⟩)) rfl (Nat.le_of_ble_eq_true rfl) (Nat.le_of_ble_eq_true rfl) dL_firstDifference_16
    · skip
      refine vx_catch (own := RL) (name := xNS) S.2.2.2.1 [⟨0, 10, 13, 30⟩] ⟨0, 10, 17, 19⟩ [] htab (fun z hz => by rw [List.mem_singleton] at hz; subst hz; exact Or.inr ⟨by decide, xIO, S.2.2.2.2 (.classLink RL 30 xIO) (by decide +kernel), hG.2.2.2.2.1.2.2.2.2.2.1⟩) (by decide) (by decide) (S.2.2.2.2 (.classLink RL 19 xNS) (by decide +kernel)) (hG.2.2.2.2.1.2.2.use _ (by decide +kernel)) h1 h2 h3 ?_
      refine lv_astore (lv' := [(4, .ref q9), (0, .ref (ad 0)), (1, .int a1), (2, .int a2), (3, .ref (ad 83))]) S.1 S.2.1 dL_firstDifference_17 hl (by decide) rfl (fun ls hl => ?_)
      refine lv_iconst (v := nI 2) S.1 S.2.1 dL_firstDifference_19 (by decide) ?_
      exact ret _ _ _ _ _ _ _ _ hG (Or.inr (Or.inr ⟨rfl, hE, rfl⟩)) rfl (Nat.le_of_ble_eq_true rfl) (Nat.le_of_ble_eq_true rfl) dL_firstDifference_20
  · skip
    refine lv_i2l (v := r9.toInt64) S.1 S.2.1 dL_firstDifference_8 rfl ?_
    refine o_last S hG (j := 0) (by decide) (hJ _ _ hp) (by decide) dL_firstDifference_9 (kk := fun H locs hG => ?_)
    refine lv_goto (tgt := 21) S.1 S.2.1 dL_firstDifference_10 (by decide) ?_
    refine lv_iconst (v := nI 0) S.1 S.2.1 dL_firstDifference_21 (by decide) ?_
    exact ret _ _ _ _ _ _ _ _ hG (Or.inl ⟨rfl, r9, f9, hp, rfl⟩) rfl (Nat.le_of_ble_eq_true rfl) (Nat.le_of_ble_eq_true rfl) dL_firstDifference_22

set_option maxHeartbeats 4000000 in
set_option maxRecDepth 100000 in
theorem h_L_open (l : Launch) (G : Gx) (ad : Nat → Nat) (s0 : Nat) (f : Nat → va_E) (a1 : Int32) (a2 : Int32) (a3 : Bool) (PX : String → Prop) (post : Int32 → (Nat → va_E) → Prop) {fs : List Value} {g : Nat → Int64} (hX : xI l yX2_open wsX2_open 7 131 2 12 [.ref (ad 0), .int a1, .int a2, .int (bI a3)] G 84 ad s0 f PX post) (h0 : f 0 = .inr (2, fs)) (hJ : ∀ r f', post r f' → f' 83 = eJ G 1 g) (hPX : ∀ E, PX E → E = xIO ∨ E = xUO) : mI l yL_open wsL_open 8 156 2 12 [.ref (ad 0), .int a1, .int a2, .int (bI a3), .ref (ad 83)] G 84 ad s0 f (fun r f' => (r = nI 0 ∧ ∃ w f1, post w f1 ∧ f' = va_up f1 83 (eJ G 1 (vp_updL g 0 w.toInt64))) ∨ (r = nI 1 ∧ PX xIO ∧ f' = f) ∨ (r = nI 2 ∧ PX xUO ∧ f' = f)) := by
  refine ov_hI (cc := cL_open) (maxL := 6) (hh := [(0, 12, 15, 30), (0, 12, 19, 13)]) (by decide) rfl (Nat.le_of_ble_eq_true rfl) ?_
  intro p e s m below meth c av Q S htab ret hG ls hl
  have S : CallFix p m c cL_open 6 s av wsL_open RL := S
  have hl : lv_has ls 6 [(0, .ref (ad 0)), (1, .int a1), (2, .int a2), (3, .int (bI a3)), (4, .ref (ad 83))] := hl
  refine lv_aload S.1 S.2.1 dL_open_0 (lv_at hl 4 rfl) ?_
  refine lv_iconst (v := nI 0) S.1 S.2.1 dL_open_2 (by decide) ?_
  refine lv_aload_n S.1 S.2.1 dL_open_3 rfl (lv_at hl 0 rfl) ?_
  refine lv_iload_n S.1 S.2.1 dL_open_4 rfl (lv_at hl 1 rfl) ?_
  refine lv_iload_n S.1 S.2.1 dL_open_5 rfl (lv_at hl 2 rfl) ?_
  refine lv_iload_n S.1 S.2.1 dL_open_6 rfl (lv_at hl 3 rfl) ?_
  refine o_xVi S (rest := [.int (nI 0), .ref (ad 83)]) hX (cwV 3 S.2.2.2.2 gL_open_X2_open rfl rfl rfl (by decide +kernel) ⟨(Nat.le_of_ble_eq_true rfl), (Nat.le_of_ble_eq_true rfl)⟩) hG (by decide) h0 rfl rfl hl.1 rfl (Nat.le_of_ble_eq_true rfl) dL_open_7 ⟨(Nat.le_of_ble_eq_true rfl), (Nat.le_of_ble_eq_true rfl)⟩ (fun E ce q9 H locs hE hG h1 h2 h3 => ?_) (fun r9 f9 H locs hp hG => ?_)
  · skip
    rcases hPX E hE with rfl | rfl
    · skip
      refine vx_catch (own := RL) (name := xIO) S.2.2.2.1 [] ⟨0, 12, 15, 30⟩ [⟨0, 12, 19, 13⟩] htab (fun z hz => absurd hz List.not_mem_nil) (by decide) (by decide) (S.2.2.2.2 (.classLink RL 30 xIO) (by decide +kernel)) (hG.2.2.2.2.1.2.2.use _ (by decide +kernel)) h1 h2 h3 ?_
      refine lv_astore (lv' := [(5, .ref q9), (0, .ref (ad 0)), (1, .int a1), (2, .int a2), (3, .int (bI a3)), (4, .ref (ad 83))]) S.1 S.2.1 dL_open_15 hl (by decide) rfl (fun ls hl => ?_)
      refine lv_iconst (v := nI 1) S.1 S.2.1 dL_open_17 (by decide) ?_
      exact ret _ _ _ _ _ _ _ _ hG (Or.inr (Or.inl ⟨rfl, hE, rfl⟩)) rfl (Nat.le_of_ble_eq_true rfl) (Nat.le_of_ble_eq_true rfl) dL_open_18
    · skip
      refine vx_catch (own := RL) (name := xUO) S.2.2.2.1 [⟨0, 12, 15, 30⟩] ⟨0, 12, 19, 13⟩ [] htab (fun z hz => by rw [List.mem_singleton] at hz; subst hz; exact Or.inr ⟨by decide, xIO, S.2.2.2.2 (.classLink RL 30 xIO) (by decide +kernel), hG.2.2.2.2.1.2.2.2.2.1⟩) (by decide) (by decide) (S.2.2.2.2 (.classLink RL 13 xUO) (by decide +kernel)) (hG.2.2.2.2.1.2.2.use _ (by decide +kernel)) h1 h2 h3 ?_
      refine lv_astore (lv' := [(5, .ref q9), (0, .ref (ad 0)), (1, .int a1), (2, .int a2), (3, .int (bI a3)), (4, .ref (ad 83))]) S.1 S.2.1 dL_open_19 hl (by decide) rfl (fun ls hl => ?_)
      refine lv_iconst (v := nI 2) S.1 S.2.1 dL_open_21 (by decide) ?_
      exact ret _ _ _ _ _ _ _ _ hG (Or.inr (Or.inr ⟨rfl, hE, rfl⟩)) rfl (Nat.le_of_ble_eq_true rfl) (Nat.le_of_ble_eq_true rfl) dL_open_22
  · skip
    refine lv_i2l (v := r9.toInt64) S.1 S.2.1 dL_open_10 rfl ?_
    refine o_last S hG (j := 0) (by decide) (hJ _ _ hp) (by decide) dL_open_11 (kk := fun H locs hG => ?_)
    refine lv_goto (tgt := 23) S.1 S.2.1 dL_open_12 (by decide) ?_
    refine lv_iconst (v := nI 0) S.1 S.2.1 dL_open_23 (by decide) ?_
    exact ret _ _ _ _ _ _ _ _ hG (Or.inl ⟨rfl, r9, f9, hp, rfl⟩) rfl (Nat.le_of_ble_eq_true rfl) (Nat.le_of_ble_eq_true rfl) dL_open_24

set_option maxHeartbeats 4000000 in
set_option maxRecDepth 100000 in
theorem h_L_next (l : Launch) (G : Gx) (ad : Nat → Nat) (s0 : Nat) (f : Nat → va_E) (a1 : Int32) (PX : String → Prop) (post : Int32 → (Nat → va_E) → Prop) {fs : List Value} {g : Nat → Int64} (hX : xI l yX2_next wsX2_next 7 131 2 12 [.ref (ad 0), .int a1] G 84 ad s0 f PX post) (h0 : f 0 = .inr (2, fs)) (hJ : ∀ r f', post r f' → f' 83 = eJ G 1 g) (hPX : ∀ E, PX E → E = xIO ∨ E = xNS) : mI l yL_next wsL_next 8 154 2 12 [.ref (ad 0), .int a1, .ref (ad 83)] G 84 ad s0 f (fun r f' => (r = nI 0 ∧ ∃ w f1, post w f1 ∧ f' = va_up f1 83 (eJ G 1 (vp_updL g 0 w.toInt64))) ∨ (r = nI 1 ∧ PX xIO ∧ f' = f) ∨ (r = nI 2 ∧ PX xNS ∧ f' = f)) := by
  refine ov_hI (cc := cL_next) (maxL := 4) (hh := [(0, 9, 12, 30), (0, 9, 15, 19)]) (by decide) rfl (Nat.le_of_ble_eq_true rfl) ?_
  intro p e s m below meth c av Q S htab ret hG ls hl
  have S : CallFix p m c cL_next 4 s av wsL_next RL := S
  have hl : lv_has ls 4 [(0, .ref (ad 0)), (1, .int a1), (2, .ref (ad 83))] := hl
  refine lv_aload_n S.1 S.2.1 dL_next_0 rfl (lv_at hl 2 rfl) ?_
  refine lv_iconst (v := nI 0) S.1 S.2.1 dL_next_1 (by decide) ?_
  refine lv_aload_n S.1 S.2.1 dL_next_2 rfl (lv_at hl 0 rfl) ?_
  refine lv_iload_n S.1 S.2.1 dL_next_3 rfl (lv_at hl 1 rfl) ?_
  refine o_xVi S (rest := [.int (nI 0), .ref (ad 83)]) hX (cwV 1 S.2.2.2.2 gL_next_X2_next rfl rfl rfl (by decide +kernel) ⟨(Nat.le_of_ble_eq_true rfl), (Nat.le_of_ble_eq_true rfl)⟩) hG (by decide) h0 rfl rfl hl.1 rfl (Nat.le_of_ble_eq_true rfl) dL_next_4 ⟨(Nat.le_of_ble_eq_true rfl), (Nat.le_of_ble_eq_true rfl)⟩ (fun E ce q9 H locs hE hG h1 h2 h3 => ?_) (fun r9 f9 H locs hp hG => ?_)
  · skip
    rcases hPX E hE with rfl | rfl
    · skip
      refine vx_catch (own := RL) (name := xIO) S.2.2.2.1 [] ⟨0, 9, 12, 30⟩ [⟨0, 9, 15, 19⟩] htab (fun z hz => absurd hz List.not_mem_nil) (by decide) (by decide) (S.2.2.2.2 (.classLink RL 30 xIO) (by decide +kernel)) (hG.2.2.2.2.1.2.2.use _ (by decide +kernel)) h1 h2 h3 ?_
      refine lv_astore_n (lv' := [(3, .ref q9), (0, .ref (ad 0)), (1, .int a1), (2, .ref (ad 83))]) S.1 S.2.1 dL_next_12 rfl hl (by decide) rfl (fun ls hl => ?_)
      refine lv_iconst (v := nI 1) S.1 S.2.1 dL_next_13 (by decide) ?_
      exact ret _ _ _ _ _ _ _ _ hG (Or.inr (Or.inl ⟨rfl, hE, rfl⟩)) rfl (Nat.le_of_ble_eq_true rfl) (Nat.le_of_ble_eq_true rfl) dL_next_14
    · skip
      refine vx_catch (own := RL) (name := xNS) S.2.2.2.1 [⟨0, 9, 12, 30⟩] ⟨0, 9, 15, 19⟩ [] htab (fun z hz => by rw [List.mem_singleton] at hz; subst hz; exact Or.inr ⟨by decide, xIO, S.2.2.2.2 (.classLink RL 30 xIO) (by decide +kernel), hG.2.2.2.2.1.2.2.2.2.2.1⟩) (by decide) (by decide) (S.2.2.2.2 (.classLink RL 19 xNS) (by decide +kernel)) (hG.2.2.2.2.1.2.2.use _ (by decide +kernel)) h1 h2 h3 ?_
      refine lv_astore_n (lv' := [(3, .ref q9), (0, .ref (ad 0)), (1, .int a1), (2, .ref (ad 83))]) S.1 S.2.1 dL_next_15 rfl hl (by decide) rfl (fun ls hl => ?_)
      refine lv_iconst (v := nI 2) S.1 S.2.1 dL_next_16 (by decide) ?_
      exact ret _ _ _ _ _ _ _ _ hG (Or.inr (Or.inr ⟨rfl, hE, rfl⟩)) rfl (Nat.le_of_ble_eq_true rfl) (Nat.le_of_ble_eq_true rfl) dL_next_17
  · skip
    refine lv_i2l (v := r9.toInt64) S.1 S.2.1 dL_next_7 rfl ?_
    refine o_last S hG (j := 0) (by decide) (hJ _ _ hp) (by decide) dL_next_8 (kk := fun H locs hG => ?_)
    refine lv_goto (tgt := 18) S.1 S.2.1 dL_next_9 (by decide) ?_
    refine lv_iconst (v := nI 0) S.1 S.2.1 dL_next_18 (by decide) ?_
    exact ret _ _ _ _ _ _ _ _ hG (Or.inl ⟨rfl, r9, f9, hp, rfl⟩) rfl (Nat.le_of_ble_eq_true rfl) (Nat.le_of_ble_eq_true rfl) dL_next_19

set_option maxHeartbeats 4000000 in
set_option maxRecDepth 100000 in
theorem h_L_skip (l : Launch) (G : Gx) (ad : Nat → Nat) (s0 : Nat) (f : Nat → va_E) (a1 : Int32) (a2 : Int32) (PX : String → Prop) (post : Int32 → (Nat → va_E) → Prop) {fs : List Value} {g : Nat → Int64} (hX : xI l yX2_skip wsX2_skip 7 131 2 12 [.ref (ad 0), .int a1, .int a2] G 84 ad s0 f PX post) (h0 : f 0 = .inr (2, fs)) (hJ : ∀ r f', post r f' → f' 83 = eJ G 1 g) (hPX : ∀ E, PX E → E = xIO ∨ E = xIA) : mI l yL_skip wsL_skip 8 155 2 12 [.ref (ad 0), .int a1, .int a2, .ref (ad 83)] G 84 ad s0 f (fun r f' => (r = nI 0 ∧ ∃ w f1, post w f1 ∧ f' = va_up f1 83 (eJ G 1 (vp_updL g 0 w.toInt64))) ∨ (r = nI 1 ∧ PX xIO ∧ f' = f) ∨ (r = nI 2 ∧ PX xIA ∧ f' = f)) := by
  refine ov_hI (cc := cL_skip) (maxL := 5) (hh := [(0, 10, 13, 30), (0, 10, 17, 25)]) (by decide) rfl (Nat.le_of_ble_eq_true rfl) ?_
  intro p e s m below meth c av Q S htab ret hG ls hl
  have S : CallFix p m c cL_skip 5 s av wsL_skip RL := S
  have hl : lv_has ls 5 [(0, .ref (ad 0)), (1, .int a1), (2, .int a2), (3, .ref (ad 83))] := hl
  refine lv_aload_n S.1 S.2.1 dL_skip_0 rfl (lv_at hl 3 rfl) ?_
  refine lv_iconst (v := nI 0) S.1 S.2.1 dL_skip_1 (by decide) ?_
  refine lv_aload_n S.1 S.2.1 dL_skip_2 rfl (lv_at hl 0 rfl) ?_
  refine lv_iload_n S.1 S.2.1 dL_skip_3 rfl (lv_at hl 1 rfl) ?_
  refine lv_iload_n S.1 S.2.1 dL_skip_4 rfl (lv_at hl 2 rfl) ?_
  refine o_xVi S (rest := [.int (nI 0), .ref (ad 83)]) hX (cwV 2 S.2.2.2.2 gL_skip_X2_skip rfl rfl rfl (by decide +kernel) ⟨(Nat.le_of_ble_eq_true rfl), (Nat.le_of_ble_eq_true rfl)⟩) hG (by decide) h0 rfl rfl hl.1 rfl (Nat.le_of_ble_eq_true rfl) dL_skip_5 ⟨(Nat.le_of_ble_eq_true rfl), (Nat.le_of_ble_eq_true rfl)⟩ (fun E ce q9 H locs hE hG h1 h2 h3 => ?_) (fun r9 f9 H locs hp hG => ?_)
  · skip
    rcases hPX E hE with rfl | rfl
    · skip
      refine vx_catch (own := RL) (name := xIO) S.2.2.2.1 [] ⟨0, 10, 13, 30⟩ [⟨0, 10, 17, 25⟩] htab (fun z hz => absurd hz List.not_mem_nil) (by decide) (by decide) (S.2.2.2.2 (.classLink RL 30 xIO) (by decide +kernel)) (hG.2.2.2.2.1.2.2.use _ (by decide +kernel)) h1 h2 h3 ?_
      refine lv_astore (lv' := [(4, .ref q9), (0, .ref (ad 0)), (1, .int a1), (2, .int a2), (3, .ref (ad 83))]) S.1 S.2.1 dL_skip_13 hl (by decide) rfl (fun ls hl => ?_)
      refine lv_iconst (v := nI 1) S.1 S.2.1 dL_skip_15 (by decide) ?_
      exact ret _ _ _ _ _ _ _ _ hG (Or.inr (Or.inl ⟨rfl, hE, rfl⟩)) rfl (Nat.le_of_ble_eq_true rfl) (Nat.le_of_ble_eq_true rfl) dL_skip_16
    · skip
      refine vx_catch (own := RL) (name := xIA) S.2.2.2.1 [⟨0, 10, 13, 30⟩] ⟨0, 10, 17, 25⟩ [] htab (fun z hz => by rw [List.mem_singleton] at hz; subst hz; exact Or.inr ⟨by decide, xIO, S.2.2.2.2 (.classLink RL 30 xIO) (by decide +kernel), hG.2.2.2.2.1.2.2.2.2.2.2⟩) (by decide) (by decide) (S.2.2.2.2 (.classLink RL 25 xIA) (by decide +kernel)) (hG.2.2.2.2.1.2.2.use _ (by decide +kernel)) h1 h2 h3 ?_
      refine lv_astore (lv' := [(4, .ref q9), (0, .ref (ad 0)), (1, .int a1), (2, .int a2), (3, .ref (ad 83))]) S.1 S.2.1 dL_skip_17 hl (by decide) rfl (fun ls hl => ?_)
      refine lv_iconst (v := nI 2) S.1 S.2.1 dL_skip_19 (by decide) ?_
      exact ret _ _ _ _ _ _ _ _ hG (Or.inr (Or.inr ⟨rfl, hE, rfl⟩)) rfl (Nat.le_of_ble_eq_true rfl) (Nat.le_of_ble_eq_true rfl) dL_skip_20
  · skip
    refine lv_i2l (v := r9.toInt64) S.1 S.2.1 dL_skip_8 rfl ?_
    refine o_last S hG (j := 0) (by decide) (hJ _ _ hp) (by decide) dL_skip_9 (kk := fun H locs hG => ?_)
    refine lv_goto (tgt := 21) S.1 S.2.1 dL_skip_10 (by decide) ?_
    refine lv_iconst (v := nI 0) S.1 S.2.1 dL_skip_21 (by decide) ?_
    exact ret _ _ _ _ _ _ _ _ hG (Or.inl ⟨rfl, r9, f9, hp, rfl⟩) rfl (Nat.le_of_ble_eq_true rfl) (Nat.le_of_ble_eq_true rfl) dL_skip_22

set_option maxHeartbeats 4000000 in
set_option maxRecDepth 100000 in
theorem h_L_peek (l : Launch) (G : Gx) (ad : Nat → Nat) (s0 : Nat) (f : Nat → va_E) (a1 : Int32) (PX : String → Prop) (post : Int32 → (Nat → va_E) → Prop) {fs : List Value} {g : Nat → Int64} (hX : xI l yX2_peek wsX2_peek 7 131 2 12 [.ref (ad 0), .int a1] G 84 ad s0 f PX post) (h0 : f 0 = .inr (2, fs)) (hJ : ∀ r f', post r f' → f' 83 = eJ G 1 g) (hPX : ∀ E, PX E → E = xIO ∨ E = xNS) : mI l yL_peek wsL_peek 8 153 2 12 [.ref (ad 0), .int a1, .ref (ad 83)] G 84 ad s0 f (fun r f' => (r = nI 0 ∧ ∃ w f1, post w f1 ∧ f' = va_up f1 83 (eJ G 1 (vp_updL g 0 w.toInt64))) ∨ (r = nI 1 ∧ PX xIO ∧ f' = f) ∨ (r = nI 2 ∧ PX xNS ∧ f' = f)) := by
  refine ov_hI (cc := cL_peek) (maxL := 4) (hh := [(0, 9, 12, 30), (0, 9, 15, 19)]) (by decide) rfl (Nat.le_of_ble_eq_true rfl) ?_
  intro p e s m below meth c av Q S htab ret hG ls hl
  have S : CallFix p m c cL_peek 4 s av wsL_peek RL := S
  have hl : lv_has ls 4 [(0, .ref (ad 0)), (1, .int a1), (2, .ref (ad 83))] := hl
  refine lv_aload_n S.1 S.2.1 dL_peek_0 rfl (lv_at hl 2 rfl) ?_
  refine lv_iconst (v := nI 0) S.1 S.2.1 dL_peek_1 (by decide) ?_
  refine lv_aload_n S.1 S.2.1 dL_peek_2 rfl (lv_at hl 0 rfl) ?_
  refine lv_iload_n S.1 S.2.1 dL_peek_3 rfl (lv_at hl 1 rfl) ?_
  refine o_xVi S (rest := [.int (nI 0), .ref (ad 83)]) hX (cwV 1 S.2.2.2.2 gL_peek_X2_peek rfl rfl rfl (by decide +kernel) ⟨(Nat.le_of_ble_eq_true rfl), (Nat.le_of_ble_eq_true rfl)⟩) hG (by decide) h0 rfl rfl hl.1 rfl (Nat.le_of_ble_eq_true rfl) dL_peek_4 ⟨(Nat.le_of_ble_eq_true rfl), (Nat.le_of_ble_eq_true rfl)⟩ (fun E ce q9 H locs hE hG h1 h2 h3 => ?_) (fun r9 f9 H locs hp hG => ?_)
  · skip
    rcases hPX E hE with rfl | rfl
    · skip
      refine vx_catch (own := RL) (name := xIO) S.2.2.2.1 [] ⟨0, 9, 12, 30⟩ [⟨0, 9, 15, 19⟩] htab (fun z hz => absurd hz List.not_mem_nil) (by decide) (by decide) (S.2.2.2.2 (.classLink RL 30 xIO) (by decide +kernel)) (hG.2.2.2.2.1.2.2.use _ (by decide +kernel)) h1 h2 h3 ?_
      refine lv_astore_n (lv' := [(3, .ref q9), (0, .ref (ad 0)), (1, .int a1), (2, .ref (ad 83))]) S.1 S.2.1 dL_peek_12 rfl hl (by decide) rfl (fun ls hl => ?_)
      refine lv_iconst (v := nI 1) S.1 S.2.1 dL_peek_13 (by decide) ?_
      exact ret _ _ _ _ _ _ _ _ hG (Or.inr (Or.inl ⟨rfl, hE, rfl⟩)) rfl (Nat.le_of_ble_eq_true rfl) (Nat.le_of_ble_eq_true rfl) dL_peek_14
    · skip
      refine vx_catch (own := RL) (name := xNS) S.2.2.2.1 [⟨0, 9, 12, 30⟩] ⟨0, 9, 15, 19⟩ [] htab (fun z hz => by rw [List.mem_singleton] at hz; subst hz; exact Or.inr ⟨by decide, xIO, S.2.2.2.2 (.classLink RL 30 xIO) (by decide +kernel), hG.2.2.2.2.1.2.2.2.2.2.1⟩) (by decide) (by decide) (S.2.2.2.2 (.classLink RL 19 xNS) (by decide +kernel)) (hG.2.2.2.2.1.2.2.use _ (by decide +kernel)) h1 h2 h3 ?_
      refine lv_astore_n (lv' := [(3, .ref q9), (0, .ref (ad 0)), (1, .int a1), (2, .ref (ad 83))]) S.1 S.2.1 dL_peek_15 rfl hl (by decide) rfl (fun ls hl => ?_)
      refine lv_iconst (v := nI 2) S.1 S.2.1 dL_peek_16 (by decide) ?_
      exact ret _ _ _ _ _ _ _ _ hG (Or.inr (Or.inr ⟨rfl, hE, rfl⟩)) rfl (Nat.le_of_ble_eq_true rfl) (Nat.le_of_ble_eq_true rfl) dL_peek_17
  · skip
    refine lv_i2l (v := r9.toInt64) S.1 S.2.1 dL_peek_7 rfl ?_
    refine o_last S hG (j := 0) (by decide) (hJ _ _ hp) (by decide) dL_peek_8 (kk := fun H locs hG => ?_)
    refine lv_goto (tgt := 18) S.1 S.2.1 dL_peek_9 (by decide) ?_
    refine lv_iconst (v := nI 0) S.1 S.2.1 dL_peek_18 (by decide) ?_
    exact ret _ _ _ _ _ _ _ _ hG (Or.inl ⟨rfl, r9, f9, hp, rfl⟩) rfl (Nat.le_of_ble_eq_true rfl) (Nat.le_of_ble_eq_true rfl) dL_peek_19

set_option maxHeartbeats 4000000 in
set_option maxRecDepth 100000 in
theorem h_L_close (l : Launch) (G : Gx) (ad : Nat → Nat) (s0 : Nat) (f : Nat → va_E) (a1 : Int32) (PX : String → Prop) (post : Int32 → (Nat → va_E) → Prop) {fs : List Value} {g : Nat → Int64} (hX : xI l yX2_close wsX2_close 7 131 1 6 [.ref (ad 0), .int a1] G 84 ad s0 f PX post) (h0 : f 0 = .inr (2, fs)) (hJ : ∀ r f', post r f' → f' 83 = eJ G 1 g) (hPX : ∀ E, PX E → E = xIO) : mI l yL_close wsL_close 8 152 1 6 [.ref (ad 0), .int a1, .ref (ad 83)] G 84 ad s0 f (fun r f' => (r = nI 0 ∧ ∃ w f1, post w f1 ∧ f' = va_up f1 83 (eJ G 1 (vp_updL g 0 w.toInt64))) ∨ (r = nI 1 ∧ PX xIO ∧ f' = f)) := by
  refine ov_hI (cc := cL_close) (maxL := 4) (hh := [(0, 9, 12, 30)]) (by decide) rfl (Nat.le_of_ble_eq_true rfl) ?_
  intro p e s m below meth c av Q S htab ret hG ls hl
  have S : CallFix p m c cL_close 4 s av wsL_close RL := S
  have hl : lv_has ls 4 [(0, .ref (ad 0)), (1, .int a1), (2, .ref (ad 83))] := hl
  refine lv_aload_n S.1 S.2.1 dL_close_0 rfl (lv_at hl 2 rfl) ?_
  refine lv_iconst (v := nI 0) S.1 S.2.1 dL_close_1 (by decide) ?_
  refine lv_aload_n S.1 S.2.1 dL_close_2 rfl (lv_at hl 0 rfl) ?_
  refine lv_iload_n S.1 S.2.1 dL_close_3 rfl (lv_at hl 1 rfl) ?_
  refine o_xVi S (rest := [.int (nI 0), .ref (ad 83)]) hX (cwV 1 S.2.2.2.2 gL_close_X2_close rfl rfl rfl (by decide +kernel) ⟨(Nat.le_of_ble_eq_true rfl), (Nat.le_of_ble_eq_true rfl)⟩) hG (by decide) h0 rfl rfl hl.1 rfl (Nat.le_of_ble_eq_true rfl) dL_close_4 ⟨(Nat.le_of_ble_eq_true rfl), (Nat.le_of_ble_eq_true rfl)⟩ (fun E ce q9 H locs hE hG h1 h2 h3 => ?_) (fun r9 f9 H locs hp hG => ?_)
  · skip
    obtain rfl := hPX E hE
    refine vx_catch (own := RL) (name := xIO) S.2.2.2.1 [] ⟨0, 9, 12, 30⟩ [] htab (fun z hz => absurd hz List.not_mem_nil) (by decide) (by decide) (S.2.2.2.2 (.classLink RL 30 xIO) (by decide +kernel)) (hG.2.2.2.2.1.2.2.use _ (by decide +kernel)) h1 h2 h3 ?_
    refine lv_astore_n (lv' := [(3, .ref q9), (0, .ref (ad 0)), (1, .int a1), (2, .ref (ad 83))]) S.1 S.2.1 dL_close_12 rfl hl (by decide) rfl (fun ls hl => ?_)
    refine lv_iconst (v := nI 1) S.1 S.2.1 dL_close_13 (by decide) ?_
    exact ret _ _ _ _ _ _ _ _ hG (Or.inr ⟨rfl, hE, rfl⟩) rfl (Nat.le_of_ble_eq_true rfl) (Nat.le_of_ble_eq_true rfl) dL_close_14
  · skip
    refine lv_i2l (v := r9.toInt64) S.1 S.2.1 dL_close_7 rfl ?_
    refine o_last S hG (j := 0) (by decide) (hJ _ _ hp) (by decide) dL_close_8 (kk := fun H locs hG => ?_)
    refine lv_goto (tgt := 15) S.1 S.2.1 dL_close_9 (by decide) ?_
    refine lv_iconst (v := nI 0) S.1 S.2.1 dL_close_15 (by decide) ?_
    exact ret _ _ _ _ _ _ _ _ hG (Or.inl ⟨rfl, r9, f9, hp, rfl⟩) rfl (Nat.le_of_ble_eq_true rfl) (Nat.le_of_ble_eq_true rfl) dL_close_16

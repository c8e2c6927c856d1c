set_option maxHeartbeats 4000000 in
set_option maxRecDepth 100000 in
theorem c_X1_isWithin (l : Launch) (G : Gx) (N : Nat) (ad : Nat → Nat) (s0 : Nat) (f : Nat → va_E) (t n : Nat) (k v : Nat → Int32) (ix : Int32) (hT : TB G N ad f t n k v) : mI l yX1_isWithin wsX1_isWithin 0 0 0 0 [.ref (ad t), .int ix] G N ad s0 f (fun r f' => f = f' ∧ r = bI (wi n ix)) := by
  refine ov_mI (cc := cX1_isWithin) (maxL := 2) (ty := .boolean) (by decide) rfl (Nat.le_of_ble_eq_true rfl) ?_
  intro p e s m below meth c av Q S ret hG ls hl
  have S : CallFix p m c cX1_isWithin 2 s av wsX1_isWithin RX1 := S
  have hl : lv_has ls 2 [(0, .ref (ad t)), (1, .int ix)] := hl
  have i_X1 : ∀ w ∈ u_ws RX1 TX1 3, w ∈ wsX1_isWithin := by decide +kernel
  have kf_18 := S.2.2.2.2 (.fieldLink RX1 18 "OrderedVersions$Table" "count" "I") (by decide +kernel)
  have hTn := hT.2.2.2.1
  have hTN := hT.2.2.2.2
  refine lv_iload_n S.1 S.2.1 dX1_isWithin_0 rfl (lv_at hl 1 rfl) ?_
  refine lv_if_lt (tgt := 16) S.1 S.2.1 dX1_isWithin_1 (by decide) (fun c_1 => ?_) (fun c_1 => ?_)
  · skip
    refine lv_iconst (v := (nI 0)) S.1 S.2.1 dX1_isWithin_16 (by decide) ?_
    exact ret _ _ _ _ _ _ _ _ hG ⟨rfl, bI_f (wi_f1 c_1)⟩ rfl (Nat.le_of_ble_eq_true rfl) (Nat.le_of_ble_eq_true rfl) dX1_isWithin_17
  · skip
    refine lv_iload_n S.1 S.2.1 dX1_isWithin_4 rfl (lv_at hl 1 rfl) ?_
    refine lv_aload_n S.1 S.2.1 dX1_isWithin_5 rfl (lv_at hl 0 rfl) ?_
    refine o_get S hG i_X1 hT.lt0 hT.1 rfl 2 (by decide) kf_18 rfl dX1_isWithin_6 ?_
    refine lv_icmp_ge (tgt := 16) S.1 S.2.1 dX1_isWithin_9 (by decide) (fun c_9 => ?_) (fun c_9 => ?_)
    · skip
      refine lv_iconst (v := (nI 0)) S.1 S.2.1 dX1_isWithin_16 (by decide) ?_
      exact ret _ _ _ _ _ _ _ _ hG ⟨rfl, bI_f (wi_f2 hTn c_9)⟩ rfl (Nat.le_of_ble_eq_true rfl) (Nat.le_of_ble_eq_true rfl) dX1_isWithin_17
    · skip
      refine lv_iconst (v := (nI 1)) S.1 S.2.1 dX1_isWithin_12 (by decide) ?_
      refine lv_goto (tgt := 17) S.1 S.2.1 dX1_isWithin_13 (by decide) ?_
      exact ret _ _ _ _ _ _ _ _ hG ⟨rfl, bI_t (wi_t hTn c_1 c_9)⟩ rfl (Nat.le_of_ble_eq_true rfl) (Nat.le_of_ble_eq_true rfl) dX1_isWithin_17

set_option maxHeartbeats 4000000 in
set_option maxRecDepth 100000 in
theorem c_X1_hasAt (l : Launch) (G : Gx) (N : Nat) (ad : Nat → Nat) (s0 : Nat) (f : Nat → va_E) (t n : Nat) (k v : Nat → Int32) (ix key : Int32) (hT : TB G N ad f t n k v) : mI l yX1_hasAt wsX1_hasAt 1 21 0 0 [.ref (ad t), .int ix, .int key] G N ad s0 f (fun r f' => f = f' ∧ r = bI (ha n k ix key)) := by
  refine ov_mI (cc := cX1_hasAt) (maxL := 3) (ty := .boolean) (by decide) rfl (Nat.le_of_ble_eq_true rfl) ?_
  intro p e s m below meth c av Q S ret hG ls hl
  have S : CallFix p m c cX1_hasAt 3 s av wsX1_hasAt RX1 := S
  have hl : lv_has ls 3 [(0, .ref (ad t)), (1, .int ix), (2, .int key)] := hl
  have i_X1 : ∀ w ∈ u_ws RX1 TX1 3, w ∈ wsX1_hasAt := by decide +kernel
  have kf_9 := S.2.2.2.2 (.fieldLink RX1 9 "OrderedVersions$Table" "keys" "[I") (by decide +kernel)
  have hTn := hT.2.2.2.1
  have hTN := hT.2.2.2.2
  refine lv_aload_n S.1 S.2.1 dX1_hasAt_0 rfl (lv_at hl 0 rfl) ?_
  refine lv_iload_n S.1 S.2.1 dX1_hasAt_1 rfl (lv_at hl 1 rfl) ?_
  refine o_cVi S (rest := []) (c_X1_isWithin l G N ad s0 f t n k v ix hT) (cwV 1 S.2.2.2.2 gX1_hasAt_X1_isWithin rfl rfl rfl (by decide +kernel) ⟨(Nat.le_of_ble_eq_true rfl), (Nat.le_of_ble_eq_true rfl)⟩) hG hT.lt0 hT.1 rfl rfl hl.1 rfl (Nat.le_of_ble_eq_true rfl) dX1_hasAt_2 ⟨(Nat.le_of_ble_eq_true rfl), (Nat.le_of_ble_eq_true rfl)⟩ (fun r9 f9 H locs hp hG => ?_)
  obtain ⟨rfl, rfl⟩ := hp
  refine b_if_eq S (b := (wi n ix)) (tgt := 22) dX1_hasAt_5 (by decide) (fun c_5 => ?_) (fun c_5 => ?_)
  · skip
    refine lv_iconst (v := (nI 0)) S.1 S.2.1 dX1_hasAt_22 (by decide) ?_
    exact ret _ _ _ _ _ _ _ _ hG ⟨rfl, bI_f (ha_f c_5)⟩ rfl (Nat.le_of_ble_eq_true rfl) (Nat.le_of_ble_eq_true rfl) dX1_hasAt_23
  · skip
    obtain ⟨j, hj, rfl⟩ := wi_ex hTn c_5
    refine lv_aload_n S.1 S.2.1 dX1_hasAt_8 rfl (lv_at hl 0 rfl) ?_
    refine o_get S hG i_X1 hT.lt0 hT.1 rfl 0 (by decide) kf_9 rfl dX1_hasAt_9 ?_
    refine lv_iload_n S.1 S.2.1 dX1_hasAt_12 rfl (lv_at hl 1 rfl) ?_
    refine o_iald S hG (j := j) hT.lt1 hT.2.1 (by omega) dX1_hasAt_13 (kk := ?_)
    refine lv_iload_n S.1 S.2.1 dX1_hasAt_14 rfl (lv_at hl 2 rfl) ?_
    refine lv_icmp_ne (tgt := 22) S.1 S.2.1 dX1_hasAt_15 (by decide) (fun c_15 => ?_) (fun c_15 => ?_)
    · skip
      refine lv_iconst (v := (nI 0)) S.1 S.2.1 dX1_hasAt_22 (by decide) ?_
      exact ret _ _ _ _ _ _ _ _ hG ⟨rfl, bI_f (by rw [ha_nI (by omega)]; exact decide_eq_false fun q => c_15 q.2)⟩ rfl (Nat.le_of_ble_eq_true rfl) (Nat.le_of_ble_eq_true rfl) dX1_hasAt_23
    · skip
      refine lv_iconst (v := (nI 1)) S.1 S.2.1 dX1_hasAt_18 (by decide) ?_
      refine lv_goto (tgt := 23) S.1 S.2.1 dX1_hasAt_19 (by decide) ?_
      exact ret _ _ _ _ _ _ _ _ hG ⟨rfl, bI_t (by rw [ha_nI (by omega)]; exact decide_eq_true ⟨hj, c_15⟩)⟩ rfl (Nat.le_of_ble_eq_true rfl) (Nat.le_of_ble_eq_true rfl) dX1_hasAt_23

set_option maxHeartbeats 4000000 in
set_option maxRecDepth 100000 in
theorem c_X1_countBelow (l : Launch) (G : Gx) (N : Nat) (ad : Nat → Nat) (s0 : Nat) (f : Nat → va_E) (t n : Nat) (k v : Nat → Int32) (key : Int32) (hT : TB G N ad f t n k v) : mI l yX1_countBelow wsX1_countBelow 0 0 0 0 [.ref (ad t), .int key] G N ad s0 f (fun r f' => f = f' ∧ r = nI (bel n k key)) := by
  refine ov_mI (cc := cX1_countBelow) (maxL := 3) (ty := .int) (by decide) rfl (Nat.le_of_ble_eq_true rfl) ?_
  intro p e s m below meth c av Q S ret hG ls hl
  have S : CallFix p m c cX1_countBelow 3 s av wsX1_countBelow RX1 := S
  have hl : lv_has ls 3 [(0, .ref (ad t)), (1, .int key)] := hl
  have i_X1 : ∀ w ∈ u_ws RX1 TX1 3, w ∈ wsX1_countBelow := by decide +kernel
  have kf_9 := S.2.2.2.2 (.fieldLink RX1 9 "OrderedVersions$Table" "keys" "[I") (by decide +kernel)
  have kf_18 := S.2.2.2.2 (.fieldLink RX1 18 "OrderedVersions$Table" "count" "I") (by decide +kernel)
  have hTn := hT.2.2.2.1
  have hTN := hT.2.2.2.2
  refine lv_iconst (v := (nI 0)) S.1 S.2.1 dX1_countBelow_0 (by decide) ?_
  refine lv_istore_n (lv' := [(2, .int (nI 0)), (0, .ref (ad t)), (1, .int key)]) S.1 S.2.1 dX1_countBelow_1 rfl hl (by decide) rfl (fun ls hl => ?_)
  have L_2 : ∀ (d9 : Nat) (i : Nat) (H : Heap) (locs : List Loc), (i ≤ n) → (∀ j, j < i → k j < key) → (n - i) < d9 → ov_dy G N ad s0 s f H locs → ∀ ls : Array Slot, lv_has ls 3 [(0, .ref (ad t)), (1, .int key), (2, .int (nI i))] → W p l e (ov_rm 0 0 0 0) s m av below meth c H locs 0 0 Q (F0 m 2 ls []) := by
    intro d9
    induction d9 with
    | zero => intro i H locs hi hlo h9; exact absurd h9 (Nat.not_lt_zero _)
    | succ d9 ih_2 =>
      intro i H locs hi hlo h9 hG ls hl
      refine lv_iload_n S.1 S.2.1 dX1_countBelow_2 rfl (lv_at hl 2 rfl) ?_
      refine lv_aload_n S.1 S.2.1 dX1_countBelow_3 rfl (lv_at hl 0 rfl) ?_
      refine o_get S hG i_X1 hT.lt0 hT.1 rfl 2 (by decide) kf_18 rfl dX1_countBelow_4 ?_
      refine n_ge S (a := i) (b := n) (tgt := 26) dX1_countBelow_7 (by decide) (by omega) (by omega) (fun c_7 => ?_) (fun c_7 => ?_)
      · skip
        refine lv_iload_n S.1 S.2.1 dX1_countBelow_26 rfl (lv_at hl 2 rfl) ?_
        exact ret _ _ _ _ _ _ _ _ hG ⟨rfl, by rw [bel_eq n k key i hi hlo (fun h => absurd h (by omega))]⟩ rfl (Nat.le_of_ble_eq_true rfl) (Nat.le_of_ble_eq_true rfl) dX1_countBelow_27
      · skip
        refine lv_aload_n S.1 S.2.1 dX1_countBelow_10 rfl (lv_at hl 0 rfl) ?_
        refine o_get S hG i_X1 hT.lt0 hT.1 rfl 0 (by decide) kf_9 rfl dX1_countBelow_11 ?_
        refine lv_iload_n S.1 S.2.1 dX1_countBelow_14 rfl (lv_at hl 2 rfl) ?_
        refine o_iald S hG (j := i) hT.lt1 hT.2.1 (by omega) dX1_countBelow_15 (kk := ?_)
        refine lv_iload_n S.1 S.2.1 dX1_countBelow_16 rfl (lv_at hl 1 rfl) ?_
        refine lv_icmp_ge (tgt := 26) S.1 S.2.1 dX1_countBelow_17 (by decide) (fun c_17 => ?_) (fun c_17 => ?_)
        · skip
          refine lv_iload_n S.1 S.2.1 dX1_countBelow_26 rfl (lv_at hl 2 rfl) ?_
          exact ret _ _ _ _ _ _ _ _ hG ⟨rfl, by rw [bel_eq n k key i hi hlo (fun _ h => by rw [i32_lt] at h; rw [i32_le] at c_17; omega)]⟩ rfl (Nat.le_of_ble_eq_true rfl) (Nat.le_of_ble_eq_true rfl) dX1_countBelow_27
        · skip
          refine lv_iinc (v := (nI (i + 1))) (lv' := [(2, .int (nI (i + 1))), (0, .ref (ad t)), (1, .int key)]) S.1 S.2.1 dX1_countBelow_20 hl (k := 2) rfl (nI_add i 1) (by decide) rfl (fun ls hl => ?_)
          refine lv_goto (tgt := 2) S.1 S.2.1 dX1_countBelow_23 (by decide) ?_
          exact ih_2 (i + 1) _ _ (by omega) (lt_s hlo (by rw [i32_lt]; rw [i32_le] at c_17; omega)) (by omega) hG ls (lv_sub hl [1, 2, 0] rfl)
  exact L_2 _ 0 _ _ (Nat.zero_le _) (fun j h => absurd h (Nat.not_lt_zero _)) (Nat.lt_succ_self _) hG ls (lv_sub hl [1, 2, 0] rfl)

set_option maxHeartbeats 4000000 in
set_option maxRecDepth 100000 in
theorem c_X1_countNotAbove (l : Launch) (G : Gx) (N : Nat) (ad : Nat → Nat) (s0 : Nat) (f : Nat → va_E) (t n : Nat) (k v : Nat → Int32) (key : Int32) (hT : TB G N ad f t n k v) : mI l yX1_countNotAbove wsX1_countNotAbove 2 43 0 0 [.ref (ad t), .int key] G N ad s0 f (fun r f' => f = f' ∧ r = nI (upt n k key)) := by
  refine ov_mI (cc := cX1_countNotAbove) (maxL := 3) (ty := .int) (by decide) rfl (Nat.le_of_ble_eq_true rfl) ?_
  intro p e s m below meth c av Q S ret hG ls hl
  have S : CallFix p m c cX1_countNotAbove 3 s av wsX1_countNotAbove RX1 := S
  have hl : lv_has ls 3 [(0, .ref (ad t)), (1, .int key)] := hl
  have hTn := hT.2.2.2.1
  have hTN := hT.2.2.2.2
  refine lv_aload_n S.1 S.2.1 dX1_countNotAbove_0 rfl (lv_at hl 0 rfl) ?_
  refine lv_iload_n S.1 S.2.1 dX1_countNotAbove_1 rfl (lv_at hl 1 rfl) ?_
  refine o_cVi S (rest := []) (c_X1_countBelow l G N ad s0 f t n k v key hT) (cwV 1 S.2.2.2.2 gX1_countNotAbove_X1_countBelow rfl rfl rfl (by decide +kernel) ⟨(Nat.le_of_ble_eq_true rfl), (Nat.le_of_ble_eq_true rfl)⟩) hG hT.lt0 hT.1 rfl rfl hl.1 rfl (Nat.le_of_ble_eq_true rfl) dX1_countNotAbove_2 ⟨(Nat.le_of_ble_eq_true rfl), (Nat.le_of_ble_eq_true rfl)⟩ (fun r9 f9 H locs hp hG => ?_)
  obtain ⟨rfl, rfl⟩ := hp
  have lb_1 := bel_le n k key
  refine lv_istore_n (lv' := [(2, .int (nI (bel n k key))), (0, .ref (ad t)), (1, .int key)]) S.1 S.2.1 dX1_countNotAbove_5 rfl hl (by decide) rfl (fun ls hl => ?_)
  refine lv_aload_n S.1 S.2.1 dX1_countNotAbove_6 rfl (lv_at hl 1 rfl) ?_
  refine lv_iload_n S.1 S.2.1 dX1_countNotAbove_7 rfl (lv_at hl 0 rfl) ?_
  refine lv_iload_n S.1 S.2.1 dX1_countNotAbove_8 rfl (lv_at hl 2 rfl) ?_
  refine o_cVi S (rest := []) (c_X1_hasAt l G N ad s0 f t n k v (nI (bel n k key)) key hT) (cwV 2 S.2.2.2.2 gX1_countNotAbove_X1_hasAt rfl rfl rfl (by decide +kernel) ⟨(Nat.le_of_ble_eq_true rfl), (Nat.le_of_ble_eq_true rfl)⟩) hG hT.lt0 hT.1 rfl rfl hl.1 rfl (Nat.le_of_ble_eq_true rfl) dX1_countNotAbove_9 ⟨(Nat.le_of_ble_eq_true rfl), (Nat.le_of_ble_eq_true rfl)⟩ (fun r9 f9 H locs hp hG => ?_)
  obtain ⟨rfl, rfl⟩ := hp
  refine b_if_eq S (b := (ha n k (nI (bel n k key)) key)) (tgt := 21) dX1_countNotAbove_12 (by decide) (fun c_12 => ?_) (fun c_12 => ?_)
  · skip
    refine lv_iload_n S.1 S.2.1 dX1_countNotAbove_21 rfl (lv_at hl 0 rfl) ?_
    exact ret _ _ _ _ _ _ _ _ hG ⟨rfl, by unfold upt; rw [if_neg (Bool.eq_false_iff.mp c_12)]⟩ rfl (Nat.le_of_ble_eq_true rfl) (Nat.le_of_ble_eq_true rfl) dX1_countNotAbove_22
  · skip
    refine lv_iload_n S.1 S.2.1 dX1_countNotAbove_15 rfl (lv_at hl 0 rfl) ?_
    refine lv_iconst (v := (nI 1)) S.1 S.2.1 dX1_countNotAbove_16 (by decide) ?_
    refine o_add S (a := bel n k key) (b := 1) dX1_countNotAbove_17 ?_
    refine lv_goto (tgt := 22) S.1 S.2.1 dX1_countNotAbove_18 (by decide) ?_
    exact ret _ _ _ _ _ _ _ _ hG ⟨rfl, by unfold upt; rw [if_pos c_12]⟩ rfl (Nat.le_of_ble_eq_true rfl) (Nat.le_of_ble_eq_true rfl) dX1_countNotAbove_22

set_option maxHeartbeats 4000000 in
set_option maxRecDepth 100000 in
theorem c_X1_nearest (l : Launch) (G : Gx) (N : Nat) (ad : Nat → Nat) (s0 : Nat) (f : Nat → va_E) (t n : Nat) (k v : Nat → Int32) (key : Int32) (ab : Bool) (hT : TB G N ad f t n k v) : mI l yX1_nearest wsX1_nearest 3 65 0 0 [.ref (ad t), .int key, .int (bI ab)] G N ad s0 f (fun r f' => f = f' ∧ r = nea n k key ab) := by
  refine ov_mI (cc := cX1_nearest) (maxL := 3) (ty := .int) (by decide) rfl (Nat.le_of_ble_eq_true rfl) ?_
  intro p e s m below meth c av Q S ret hG ls hl
  have S : CallFix p m c cX1_nearest 3 s av wsX1_nearest RX1 := S
  have hl : lv_has ls 3 [(0, .ref (ad t)), (1, .int key), (2, .int (bI ab))] := hl
  have hTn := hT.2.2.2.1
  have hTN := hT.2.2.2.2
  refine lv_iload_n S.1 S.2.1 dX1_nearest_0 rfl (lv_at hl 2 rfl) ?_
  refine b_if_eq S (b := ab) (tgt := 12) dX1_nearest_1 (by decide) (fun c_1 => ?_) (fun c_1 => ?_)
  · skip
    refine lv_aload_n S.1 S.2.1 dX1_nearest_12 rfl (lv_at hl 0 rfl) ?_
    refine lv_iload_n S.1 S.2.1 dX1_nearest_13 rfl (lv_at hl 1 rfl) ?_
    refine o_cVi S (rest := []) (c_X1_countNotAbove l G N ad s0 f t n k v key hT) (cwV 1 S.2.2.2.2 gX1_nearest_X1_countNotAbove rfl rfl rfl (by decide +kernel) ⟨(Nat.le_of_ble_eq_true rfl), (Nat.le_of_ble_eq_true rfl)⟩) hG hT.lt0 hT.1 rfl rfl hl.1 rfl (Nat.le_of_ble_eq_true rfl) dX1_nearest_14 ⟨(Nat.le_of_ble_eq_true rfl), (Nat.le_of_ble_eq_true rfl)⟩ (fun r9 f9 H locs hp hG => ?_)
    obtain ⟨rfl, rfl⟩ := hp
    have lb_1 := upt_le n k key hT.2.2.2.1
    refine lv_iconst (v := (nI 1)) S.1 S.2.1 dX1_nearest_17 (by decide) ?_
    refine lv_isub S.1 S.2.1 dX1_nearest_18 ?_
    exact ret _ _ _ _ _ _ _ _ hG ⟨rfl, by rw [c_1]; rfl⟩ rfl (Nat.le_of_ble_eq_true rfl) (Nat.le_of_ble_eq_true rfl) dX1_nearest_19
  · skip
    refine lv_aload_n S.1 S.2.1 dX1_nearest_4 rfl (lv_at hl 0 rfl) ?_
    refine lv_iload_n S.1 S.2.1 dX1_nearest_5 rfl (lv_at hl 1 rfl) ?_
    refine o_cVi S (rest := []) (c_X1_countBelow l G N ad s0 f t n k v key hT) (cwV 1 S.2.2.2.2 gX1_nearest_X1_countBelow rfl rfl rfl (by decide +kernel) ⟨(Nat.le_of_ble_eq_true rfl), (Nat.le_of_ble_eq_true rfl)⟩) hG hT.lt0 hT.1 rfl rfl hl.1 rfl (Nat.le_of_ble_eq_true rfl) dX1_nearest_6 ⟨(Nat.le_of_ble_eq_true rfl), (Nat.le_of_ble_eq_true rfl)⟩ (fun r9 f9 H locs hp hG => ?_)
    obtain ⟨rfl, rfl⟩ := hp
    have lb_2 := bel_le n k key
    refine lv_goto (tgt := 19) S.1 S.2.1 dX1_nearest_9 (by decide) ?_
    exact ret _ _ _ _ _ _ _ _ hG ⟨rfl, by rw [c_1]; rfl⟩ rfl (Nat.le_of_ble_eq_true rfl) (Nat.le_of_ble_eq_true rfl) dX1_nearest_19

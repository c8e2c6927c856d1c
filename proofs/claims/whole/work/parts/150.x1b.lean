set_option maxHeartbeats 4000000 in
set_option maxRecDepth 100000 in
theorem c_X1_insertAt (l : Launch) (G : Gx) (N : Nat) (ad : Nat → Nat) (s0 : Nat) (f : Nat → va_E) (t n : Nat) (k v : Nat → Int32) (a : Nat) (key w : Int32) (hT : TB G N ad f t n k v) (ha9 : a ≤ n) (hn9 : n < 600) : mV l yX1_insertAt wsX1_insertAt 1 80 0 0 [.ref (ad t), .int (nI a), .int key, .int w] G N ad s0 f (fun f' => ∃ k2 v2, TB G N ad f' t (n + 1) k2 v2 ∧ Onl t f f' ∧ ∀ i, i < n + 1 → k2 i = insF k a key i ∧ v2 i = insF v a w i) := by
  refine ov_mV (cc := cX1_insertAt) (maxL := 4) (by decide) rfl (Nat.le_of_ble_eq_true rfl) ?_
  intro p e s m below meth c av Q S ret hG ls hl
  have S : CallFix p m c cX1_insertAt 4 s av wsX1_insertAt RX1 := S
  have hl : lv_has ls 4 [(0, .ref (ad t)), (1, .int (nI a)), (2, .int key), (3, .int w)] := hl
  have i_X1 : ∀ w ∈ u_ws RX1 TX1 3, w ∈ wsX1_insertAt := by decide +kernel
  have kf_9 := S.2.2.2.2 (.fieldLink RX1 9 "OrderedVersions$Table" "keys" "[I") (by decide +kernel)
  have kf_15 := S.2.2.2.2 (.fieldLink RX1 15 "OrderedVersions$Table" "values" "[I") (by decide +kernel)
  have kf_18 := S.2.2.2.2 (.fieldLink RX1 18 "OrderedVersions$Table" "count" "I") (by decide +kernel)
  have hTn := hT.2.2.2.1
  have hTN := hT.2.2.2.2
  have hO : Onl t f f := Onl.rf
  refine lv_aload_n S.1 S.2.1 dX1_insertAt_0 rfl (lv_at hl 0 rfl) ?_
  refine o_get S hG i_X1 hT.lt0 hT.1 rfl 0 (by decide) kf_9 rfl dX1_insertAt_1 ?_
  refine lv_iload_n S.1 S.2.1 dX1_insertAt_4 rfl (lv_at hl 1 rfl) ?_
  refine lv_aload_n S.1 S.2.1 dX1_insertAt_5 rfl (lv_at hl 0 rfl) ?_
  refine o_get S hG i_X1 hT.lt0 hT.1 rfl 0 (by decide) kf_9 rfl dX1_insertAt_6 ?_
  refine lv_iload_n S.1 S.2.1 dX1_insertAt_9 rfl (lv_at hl 1 rfl) ?_
  refine lv_iconst (v := (nI 1)) S.1 S.2.1 dX1_insertAt_10 (by decide) ?_
  refine o_add S (a := a) (b := 1) dX1_insertAt_11 ?_
  refine lv_aload_n S.1 S.2.1 dX1_insertAt_12 rfl (lv_at hl 0 rfl) ?_
  refine o_get S hG i_X1 hT.lt0 hT.1 rfl 2 (by decide) kf_18 rfl dX1_insertAt_13 ?_
  refine lv_iload_n S.1 S.2.1 dX1_insertAt_16 rfl (lv_at hl 1 rfl) ?_
  refine o_sub S (a := n) (b := a) dX1_insertAt_17 (by omega) ?_
  refine o_copyi S hG hl.1 (S.2.2.2.2 (.methodLink RX1 37 arraycopyName) (by decide +kernel)) (S.2.2.2.2 (.native arraycopyName) (by decide +kernel)) (S.2.2.2.2 (.static arraycopyName) (by decide +kernel)) (S.2.2.2.2 (.initialized "java/lang/System") (by decide +kernel)) (a := t + 1) (b := t + 1) (sp := a) (dp := a + 1) (n := n - a) hT.lt1 hT.lt1 hT.2.1 hT.2.1 (by omega) (by omega) (by decide) (by decide) (Nat.le_of_ble_eq_true rfl) (Nat.le_of_ble_eq_true rfl) dX1_insertAt_18 (fun H locs hG => ?_)
  obtain ⟨f_1, ef_1, hG⟩ := ov_name hG
  have hT := hT.upk ef_1
  have hO := hO.up ef_1 (by omega)
  refine lv_aload_n S.1 S.2.1 dX1_insertAt_21 rfl (lv_at hl 0 rfl) ?_
  refine o_get S hG i_X1 hT.lt0 hT.1 rfl 1 (by decide) kf_15 rfl dX1_insertAt_22 ?_
  refine lv_iload_n S.1 S.2.1 dX1_insertAt_25 rfl (lv_at hl 1 rfl) ?_
  refine lv_aload_n S.1 S.2.1 dX1_insertAt_26 rfl (lv_at hl 0 rfl) ?_
  refine o_get S hG i_X1 hT.lt0 hT.1 rfl 1 (by decide) kf_15 rfl dX1_insertAt_27 ?_
  refine lv_iload_n S.1 S.2.1 dX1_insertAt_30 rfl (lv_at hl 1 rfl) ?_
  refine lv_iconst (v := (nI 1)) S.1 S.2.1 dX1_insertAt_31 (by decide) ?_
  refine o_add S (a := a) (b := 1) dX1_insertAt_32 ?_
  refine lv_aload_n S.1 S.2.1 dX1_insertAt_33 rfl (lv_at hl 0 rfl) ?_
  refine o_get S hG i_X1 hT.lt0 hT.1 rfl 2 (by decide) kf_18 rfl dX1_insertAt_34 ?_
  refine lv_iload_n S.1 S.2.1 dX1_insertAt_37 rfl (lv_at hl 1 rfl) ?_
  refine o_sub S (a := n) (b := a) dX1_insertAt_38 (by omega) ?_
  refine o_copyi S hG hl.1 (S.2.2.2.2 (.methodLink RX1 37 arraycopyName) (by decide +kernel)) (S.2.2.2.2 (.native arraycopyName) (by decide +kernel)) (S.2.2.2.2 (.static arraycopyName) (by decide +kernel)) (S.2.2.2.2 (.initialized "java/lang/System") (by decide +kernel)) (a := t + 2) (b := t + 2) (sp := a) (dp := a + 1) (n := n - a) hT.lt2 hT.lt2 hT.2.2.1 hT.2.2.1 (by omega) (by omega) (by decide) (by decide) (Nat.le_of_ble_eq_true rfl) (Nat.le_of_ble_eq_true rfl) dX1_insertAt_39 (fun H locs hG => ?_)
  obtain ⟨f_2, ef_2, hG⟩ := ov_name hG
  have hT := hT.upv ef_2
  have hO := hO.up ef_2 (by omega)
  refine lv_aload_n S.1 S.2.1 dX1_insertAt_42 rfl (lv_at hl 0 rfl) ?_
  refine o_get S hG i_X1 hT.lt0 hT.1 rfl 0 (by decide) kf_9 rfl dX1_insertAt_43 ?_
  refine lv_iload_n S.1 S.2.1 dX1_insertAt_46 rfl (lv_at hl 1 rfl) ?_
  refine lv_iload_n S.1 S.2.1 dX1_insertAt_47 rfl (lv_at hl 2 rfl) ?_
  refine o_iast S hG (j := a) hT.lt1 hT.2.1 (by omega) dX1_insertAt_48 (kk := fun H locs hG => ?_)
  obtain ⟨f_3, ef_3, hG⟩ := ov_name hG
  have hT := hT.upk ef_3
  have hO := hO.up ef_3 (by omega)
  refine lv_aload_n S.1 S.2.1 dX1_insertAt_49 rfl (lv_at hl 0 rfl) ?_
  refine o_get S hG i_X1 hT.lt0 hT.1 rfl 1 (by decide) kf_15 rfl dX1_insertAt_50 ?_
  refine lv_iload_n S.1 S.2.1 dX1_insertAt_53 rfl (lv_at hl 1 rfl) ?_
  refine lv_iload_n S.1 S.2.1 dX1_insertAt_54 rfl (lv_at hl 3 rfl) ?_
  refine o_iast S hG (j := a) hT.lt2 hT.2.2.1 (by omega) dX1_insertAt_55 (kk := fun H locs hG => ?_)
  obtain ⟨f_4, ef_4, hG⟩ := ov_name hG
  have hT := hT.upv ef_4
  have hO := hO.up ef_4 (by omega)
  refine lv_aload_n S.1 S.2.1 dX1_insertAt_56 rfl (lv_at hl 0 rfl) ?_
  refine lv_dup S.1 S.2.1 dX1_insertAt_57 rfl ?_
  refine o_get S hG i_X1 hT.lt0 hT.1 rfl 2 (by decide) kf_18 rfl dX1_insertAt_58 ?_
  refine lv_iconst (v := (nI 1)) S.1 S.2.1 dX1_insertAt_61 (by decide) ?_
  refine o_add S (a := n) (b := 1) dX1_insertAt_62 ?_
  refine o_put S hG i_X1 tyX1_ok nmX1 hT.lt0 hT.1 rfl 2 (by decide) kf_18 rfl rfl rfl (Nat.le_of_ble_eq_true rfl) dX1_insertAt_63 (fun H locs hG => ?_)
  obtain ⟨f_5, ef_5, hG⟩ := ov_name hG
  have hT := hT.upn ef_5 (n2 := n + 1) (by omega)
  have hO := hO.up ef_5 (by omega)
  exact ret _ _ _ _ _ _ _ hG ⟨_, _, hT, hO, fun i hi => ⟨ins_cpy ha9 hi, ins_cpy ha9 hi⟩⟩ (Nat.le_of_ble_eq_true rfl) (Nat.le_of_ble_eq_true rfl) dX1_insertAt_66

set_option maxHeartbeats 4000000 in
set_option maxRecDepth 100000 in
theorem c_X1_dropBetween (l : Launch) (G : Gx) (N : Nat) (ad : Nat → Nat) (s0 : Nat) (f : Nat → va_E) (t n : Nat) (k v : Nat → Int32) (a b : Nat) (hT : TB G N ad f t n k v) (ha9 : a ≤ b) (hb9 : b ≤ n) : mV l yX1_dropBetween wsX1_dropBetween 1 80 0 0 [.ref (ad t), .int (nI a), .int (nI b)] G N ad s0 f (fun f' => ∃ k2 v2, TB G N ad f' t (n - (b - a)) k2 v2 ∧ Onl t f f' ∧ ∀ i, i < n - (b - a) → k2 i = delF k a (b - a) i ∧ v2 i = delF v a (b - a) i) := by
  refine ov_mV (cc := cX1_dropBetween) (maxL := 3) (by decide) rfl (Nat.le_of_ble_eq_true rfl) ?_
  intro p e s m below meth c av Q S ret hG ls hl
  have S : CallFix p m c cX1_dropBetween 3 s av wsX1_dropBetween RX1 := S
  have hl : lv_has ls 3 [(0, .ref (ad t)), (1, .int (nI a)), (2, .int (nI b))] := hl
  have i_X1 : ∀ w ∈ u_ws RX1 TX1 3, w ∈ wsX1_dropBetween := by decide +kernel
  have kf_9 := S.2.2.2.2 (.fieldLink RX1 9 "OrderedVersions$Table" "keys" "[I") (by decide +kernel)
  have kf_15 := S.2.2.2.2 (.fieldLink RX1 15 "OrderedVersions$Table" "values" "[I") (by decide +kernel)
  have kf_18 := S.2.2.2.2 (.fieldLink RX1 18 "OrderedVersions$Table" "count" "I") (by decide +kernel)
  have hTn := hT.2.2.2.1
  have hTN := hT.2.2.2.2
  have hO : Onl t f f := Onl.rf
  refine lv_aload_n S.1 S.2.1 dX1_dropBetween_0 rfl (lv_at hl 0 rfl) ?_
  refine o_get S hG i_X1 hT.lt0 hT.1 rfl 0 (by decide) kf_9 rfl dX1_dropBetween_1 ?_
  refine lv_iload_n S.1 S.2.1 dX1_dropBetween_4 rfl (lv_at hl 2 rfl) ?_
  refine lv_aload_n S.1 S.2.1 dX1_dropBetween_5 rfl (lv_at hl 0 rfl) ?_
  refine o_get S hG i_X1 hT.lt0 hT.1 rfl 0 (by decide) kf_9 rfl dX1_dropBetween_6 ?_
  refine lv_iload_n S.1 S.2.1 dX1_dropBetween_9 rfl (lv_at hl 1 rfl) ?_
  refine lv_aload_n S.1 S.2.1 dX1_dropBetween_10 rfl (lv_at hl 0 rfl) ?_
  refine o_get S hG i_X1 hT.lt0 hT.1 rfl 2 (by decide) kf_18 rfl dX1_dropBetween_11 ?_
  refine lv_iload_n S.1 S.2.1 dX1_dropBetween_14 rfl (lv_at hl 2 rfl) ?_
  refine o_sub S (a := n) (b := b) dX1_dropBetween_15 (by omega) ?_
  refine o_copyi S hG hl.1 (S.2.2.2.2 (.methodLink RX1 37 arraycopyName) (by decide +kernel)) (S.2.2.2.2 (.native arraycopyName) (by decide +kernel)) (S.2.2.2.2 (.static arraycopyName) (by decide +kernel)) (S.2.2.2.2 (.initialized "java/lang/System") (by decide +kernel)) (a := t + 1) (b := t + 1) (sp := b) (dp := a) (n := n - b) hT.lt1 hT.lt1 hT.2.1 hT.2.1 (by omega) (by omega) (by decide) (by decide) (Nat.le_of_ble_eq_true rfl) (Nat.le_of_ble_eq_true rfl) dX1_dropBetween_16 (fun H locs hG => ?_)
  obtain ⟨f_1, ef_1, hG⟩ := ov_name hG
  have hT := hT.upk ef_1
  have hO := hO.up ef_1 (by omega)
  refine lv_aload_n S.1 S.2.1 dX1_dropBetween_19 rfl (lv_at hl 0 rfl) ?_
  refine o_get S hG i_X1 hT.lt0 hT.1 rfl 1 (by decide) kf_15 rfl dX1_dropBetween_20 ?_
  refine lv_iload_n S.1 S.2.1 dX1_dropBetween_23 rfl (lv_at hl 2 rfl) ?_
  refine lv_aload_n S.1 S.2.1 dX1_dropBetween_24 rfl (lv_at hl 0 rfl) ?_
  refine o_get S hG i_X1 hT.lt0 hT.1 rfl 1 (by decide) kf_15 rfl dX1_dropBetween_25 ?_
  refine lv_iload_n S.1 S.2.1 dX1_dropBetween_28 rfl (lv_at hl 1 rfl) ?_
  refine lv_aload_n S.1 S.2.1 dX1_dropBetween_29 rfl (lv_at hl 0 rfl) ?_
  refine o_get S hG i_X1 hT.lt0 hT.1 rfl 2 (by decide) kf_18 rfl dX1_dropBetween_30 ?_
  refine lv_iload_n S.1 S.2.1 dX1_dropBetween_33 rfl (lv_at hl 2 rfl) ?_
  refine o_sub S (a := n) (b := b) dX1_dropBetween_34 (by omega) ?_
  refine o_copyi S hG hl.1 (S.2.2.2.2 (.methodLink RX1 37 arraycopyName) (by decide +kernel)) (S.2.2.2.2 (.native arraycopyName) (by decide +kernel)) (S.2.2.2.2 (.static arraycopyName) (by decide +kernel)) (S.2.2.2.2 (.initialized "java/lang/System") (by decide +kernel)) (a := t + 2) (b := t + 2) (sp := b) (dp := a) (n := n - b) hT.lt2 hT.lt2 hT.2.2.1 hT.2.2.1 (by omega) (by omega) (by decide) (by decide) (Nat.le_of_ble_eq_true rfl) (Nat.le_of_ble_eq_true rfl) dX1_dropBetween_35 (fun H locs hG => ?_)
  obtain ⟨f_2, ef_2, hG⟩ := ov_name hG
  have hT := hT.upv ef_2
  have hO := hO.up ef_2 (by omega)
  refine lv_aload_n S.1 S.2.1 dX1_dropBetween_38 rfl (lv_at hl 0 rfl) ?_
  refine lv_dup S.1 S.2.1 dX1_dropBetween_39 rfl ?_
  refine o_get S hG i_X1 hT.lt0 hT.1 rfl 2 (by decide) kf_18 rfl dX1_dropBetween_40 ?_
  refine lv_iload_n S.1 S.2.1 dX1_dropBetween_43 rfl (lv_at hl 2 rfl) ?_
  refine lv_iload_n S.1 S.2.1 dX1_dropBetween_44 rfl (lv_at hl 1 rfl) ?_
  refine o_sub S (a := b) (b := a) dX1_dropBetween_45 (by omega) ?_
  refine o_sub S (a := n) (b := b - a) dX1_dropBetween_46 (by omega) ?_
  refine o_put S hG i_X1 tyX1_ok nmX1 hT.lt0 hT.1 rfl 2 (by decide) kf_18 rfl rfl rfl (Nat.le_of_ble_eq_true rfl) dX1_dropBetween_47 (fun H locs hG => ?_)
  obtain ⟨f_3, ef_3, hG⟩ := ov_name hG
  have hT := hT.upn ef_3 (n2 := n - (b - a)) (by omega)
  have hO := hO.up ef_3 (by omega)
  exact ret _ _ _ _ _ _ _ hG ⟨_, _, hT, hO, fun i hi => ⟨del_cpy ha9 hb9 hi, del_cpy ha9 hb9 hi⟩⟩ (Nat.le_of_ble_eq_true rfl) (Nat.le_of_ble_eq_true rfl) dX1_dropBetween_50

theorem fill_s {kk vv : Nat → Int32} {i : Nat} {F F2 : Nat → Int32} (hk : ∀ j, j < i → kk j = F j ∧ vv j = F2 j) : ∀ j, j < i + 1 → upd kk i (F i) j = F j ∧ upd vv i (F2 i) j = F2 j := by
  intro j hj
  simp only [upd]
  by_cases h : j = i
  · subst h; simp
  · rw [if_neg h, if_neg h]; exact hk j (by omega)

set_option maxHeartbeats 4000000 in
set_option maxRecDepth 100000 in
theorem c_X1_fill (l : Launch) (G : Gx) (N : Nat) (ad : Nat → Nat) (s0 : Nat) (f : Nat → va_E) (t n : Nat) (k v : Nat → Int32) (q : Nat) (first step times more : Int32) (hT : TB G N ad f t n k v) (hq : q ≤ 600) : mV l yX1_fill wsX1_fill 0 0 0 0 [.ref (ad t), .int first, .int step, .int (nI q), .int times, .int more] G N ad s0 f (fun f' => ∃ k2 v2, TB G N ad f' t q k2 v2 ∧ Onl t f f' ∧ ∀ j, j < q → k2 j = first + (step * (nI j)) ∧ v2 j = times * (first + (step * (nI j))) + more) := by
  refine ov_mV (cc := cX1_fill) (maxL := 8) (by decide) rfl (Nat.le_of_ble_eq_true rfl) ?_
  intro p e s m below meth c av Q S ret hG ls hl
  have S : CallFix p m c cX1_fill 8 s av wsX1_fill RX1 := S
  have hl : lv_has ls 8 [(0, .ref (ad t)), (1, .int first), (2, .int step), (3, .int (nI q)), (4, .int times), (5, .int more)] := hl
  have i_X1 : ∀ w ∈ u_ws RX1 TX1 3, w ∈ wsX1_fill := by decide +kernel
  have kf_9 := S.2.2.2.2 (.fieldLink RX1 9 "OrderedVersions$Table" "keys" "[I") (by decide +kernel)
  have kf_15 := S.2.2.2.2 (.fieldLink RX1 15 "OrderedVersions$Table" "values" "[I") (by decide +kernel)
  have kf_18 := S.2.2.2.2 (.fieldLink RX1 18 "OrderedVersions$Table" "count" "I") (by decide +kernel)
  have hTn := hT.2.2.2.1
  have hTN := hT.2.2.2.2
  have hO : Onl t f f := Onl.rf
  refine lv_iconst (v := (nI 0)) S.1 S.2.1 dX1_fill_0 (by decide) ?_
  refine lv_istore (lv' := [(6, .int (nI 0)), (0, .ref (ad t)), (1, .int first), (2, .int step), (3, .int (nI q)), (4, .int times), (5, .int more)]) S.1 S.2.1 dX1_fill_1 hl (by decide) rfl (fun ls hl => ?_)
  have L_3 : ∀ (d9 : Nat) (i : Nat) (kk : Nat → Int32) (vv : Nat → Int32) (f2 : Nat → va_E) (H : Heap) (locs : List Loc), (TB G N ad f2 t n kk vv) → (Onl t f f2) → (i ≤ q) → (∀ j, j < i → kk j = first + (step * (nI j)) ∧ vv j = times * (first + (step * (nI j))) + more) → (q - i) < d9 → ov_dy G N ad s0 s f2 H locs → ∀ ls : Array Slot, lv_has ls 8 [(0, .ref (ad t)), (1, .int first), (2, .int step), (3, .int (nI q)), (4, .int times), (5, .int more), (6, .int (nI i))] → W p l e (ov_rm 0 0 0 0) s m av below meth c H locs 0 0 Q (F0 m 3 ls []) := by
    intro d9
    induction d9 with
    | zero => intro i kk vv f2 H locs hT hO hi hk h9; exact absurd h9 (Nat.not_lt_zero _)
    | succ d9 ih_3 =>
      intro i kk vv f2 H locs hT hO hi hk h9 hG ls hl
      refine lv_iload S.1 S.2.1 dX1_fill_3 (lv_at hl 6 rfl) ?_
      refine lv_iload_n S.1 S.2.1 dX1_fill_5 rfl (lv_at hl 3 rfl) ?_
      refine n_ge S (a := i) (b := q) (tgt := 47) dX1_fill_6 (by decide) (by omega) (by omega) (fun c_6 => ?_) (fun c_6 => ?_)
      · skip
        refine lv_aload_n S.1 S.2.1 dX1_fill_47 rfl (lv_at hl 0 rfl) ?_
        refine lv_iload_n S.1 S.2.1 dX1_fill_48 rfl (lv_at hl 3 rfl) ?_
        refine o_put S hG i_X1 tyX1_ok nmX1 hT.lt0 hT.1 rfl 2 (by decide) kf_18 rfl rfl rfl (Nat.le_of_ble_eq_true rfl) dX1_fill_49 (fun H locs hG => ?_)
        obtain ⟨f_1, ef_1, hG⟩ := ov_name hG
        have hT := hT.upn ef_1 (n2 := q) (by omega)
        have hO := hO.up ef_1 (by omega)
        exact ret _ _ _ _ _ _ _ hG ⟨_, _, hT, hO, fun j hj => hk j (by omega)⟩ (Nat.le_of_ble_eq_true rfl) (Nat.le_of_ble_eq_true rfl) dX1_fill_52
      · skip
        refine lv_iload_n S.1 S.2.1 dX1_fill_9 rfl (lv_at hl 1 rfl) ?_
        refine lv_iload_n S.1 S.2.1 dX1_fill_10 rfl (lv_at hl 2 rfl) ?_
        refine lv_iload S.1 S.2.1 dX1_fill_11 (lv_at hl 6 rfl) ?_
        refine lv_imul S.1 S.2.1 dX1_fill_13 ?_
        refine lv_iadd S.1 S.2.1 dX1_fill_14 ?_
        refine lv_istore (lv' := [(7, .int (first + (step * (nI i)))), (0, .ref (ad t)), (1, .int first), (2, .int step), (3, .int (nI q)), (4, .int times), (5, .int more), (6, .int (nI i))]) S.1 S.2.1 dX1_fill_15 hl (by decide) rfl (fun ls hl => ?_)
        refine lv_aload_n S.1 S.2.1 dX1_fill_17 rfl (lv_at hl 1 rfl) ?_
        refine o_get S hG i_X1 hT.lt0 hT.1 rfl 0 (by decide) kf_9 rfl dX1_fill_18 ?_
        refine lv_iload S.1 S.2.1 dX1_fill_21 (lv_at hl 7 rfl) ?_
        refine lv_iload S.1 S.2.1 dX1_fill_23 (lv_at hl 0 rfl) ?_
        refine o_iast S hG (j := i) hT.lt1 hT.2.1 (by omega) dX1_fill_25 (kk := fun H locs hG => ?_)
        obtain ⟨f_2, ef_2, hG⟩ := ov_name hG
        have hT := hT.upk ef_2
        have hO := hO.up ef_2 (by omega)
        refine lv_aload_n S.1 S.2.1 dX1_fill_26 rfl (lv_at hl 1 rfl) ?_
        refine o_get S hG i_X1 hT.lt0 hT.1 rfl 1 (by decide) kf_15 rfl dX1_fill_27 ?_
        refine lv_iload S.1 S.2.1 dX1_fill_30 (lv_at hl 7 rfl) ?_
        refine lv_iload S.1 S.2.1 dX1_fill_32 (lv_at hl 5 rfl) ?_
        refine lv_iload S.1 S.2.1 dX1_fill_34 (lv_at hl 0 rfl) ?_
        refine lv_imul S.1 S.2.1 dX1_fill_36 ?_
        refine lv_iload S.1 S.2.1 dX1_fill_37 (lv_at hl 6 rfl) ?_
        refine lv_iadd S.1 S.2.1 dX1_fill_39 ?_
        refine o_iast S hG (j := i) hT.lt2 hT.2.2.1 (by omega) dX1_fill_40 (kk := fun H locs hG => ?_)
        obtain ⟨f_3, ef_3, hG⟩ := ov_name hG
        have hT := hT.upv ef_3
        have hO := hO.up ef_3 (by omega)
        refine lv_iinc (v := (nI (i + 1))) (lv' := [(6, .int (nI (i + 1))), (7, .int (first + (step * (nI i)))), (0, .ref (ad t)), (1, .int first), (2, .int step), (3, .int (nI q)), (4, .int times), (5, .int more)]) S.1 S.2.1 dX1_fill_41 hl (k := 7) rfl (nI_add i 1) (by decide) rfl (fun ls hl => ?_)
        refine lv_goto (tgt := 3) S.1 S.2.1 dX1_fill_44 (by decide) ?_
        exact ih_3 (i + 1) (upd kk i (first + (step * (nI i)))) (upd vv i ((times * (first + (step * (nI i)))) + more)) f_3 _ _ hT hO (by omega) (fill_s hk) (by omega) hG ls (lv_sub hl [2, 3, 4, 5, 6, 7, 0] rfl)
  exact L_3 _ 0 k v f _ _ hT hO (Nat.zero_le _) (fun j h => absurd h (Nat.not_lt_zero _)) (Nat.lt_succ_self _) hG ls (lv_sub hl [1, 2, 3, 4, 5, 6, 0] rfl)

set_option maxHeartbeats 4000000 in
set_option maxRecDepth 100000 in
theorem c_X1_copyFrom (l : Launch) (G : Gx) (N : Nat) (ad : Nat → Nat) (s0 : Nat) (f : Nat → va_E) (t n : Nat) (k v : Nat → Int32) (o n2 : Nat) (k2 v2 : Nat → Int32) (hT : TB G N ad f t n k v) (hU : TB G N ad f o n2 k2 v2) (hap : t + 2 < o ∨ o + 2 < t) : mV l yX1_copyFrom wsX1_copyFrom 1 80 0 0 [.ref (ad t), .ref (ad o)] G N ad s0 f (fun f' => ∃ k3 v3, TB G N ad f' t n2 k3 v3 ∧ Onl t f f' ∧ ∀ i, i < n2 → k3 i = k2 i ∧ v3 i = v2 i) := by
  refine ov_mV (cc := cX1_copyFrom) (maxL := 2) (by decide) rfl (Nat.le_of_ble_eq_true rfl) ?_
  intro p e s m below meth c av Q S ret hG ls hl
  have S : CallFix p m c cX1_copyFrom 2 s av wsX1_copyFrom RX1 := S
  have hl : lv_has ls 2 [(0, .ref (ad t)), (1, .ref (ad o))] := hl
  have i_X1 : ∀ w ∈ u_ws RX1 TX1 3, w ∈ wsX1_copyFrom := by decide +kernel
  have kf_9 := S.2.2.2.2 (.fieldLink RX1 9 "OrderedVersions$Table" "keys" "[I") (by decide +kernel)
  have kf_15 := S.2.2.2.2 (.fieldLink RX1 15 "OrderedVersions$Table" "values" "[I") (by decide +kernel)
  have kf_18 := S.2.2.2.2 (.fieldLink RX1 18 "OrderedVersions$Table" "count" "I") (by decide +kernel)
  have hTn := hT.2.2.2.1
  have hTN := hT.2.2.2.2
  have hUn := hU.2.2.2.1
  have hUN := hU.2.2.2.2
  have hO : Onl t f f := Onl.rf
  refine lv_aload_n S.1 S.2.1 dX1_copyFrom_0 rfl (lv_at hl 1 rfl) ?_
  refine o_get S hG i_X1 hU.lt0 hU.1 rfl 0 (by decide) kf_9 rfl dX1_copyFrom_1 ?_
  refine lv_iconst (v := (nI 0)) S.1 S.2.1 dX1_copyFrom_4 (by decide) ?_
  refine lv_aload_n S.1 S.2.1 dX1_copyFrom_5 rfl (lv_at hl 0 rfl) ?_
  refine o_get S hG i_X1 hT.lt0 hT.1 rfl 0 (by decide) kf_9 rfl dX1_copyFrom_6 ?_
  refine lv_iconst (v := (nI 0)) S.1 S.2.1 dX1_copyFrom_9 (by decide) ?_
  refine lv_aload_n S.1 S.2.1 dX1_copyFrom_10 rfl (lv_at hl 1 rfl) ?_
  refine o_get S hG i_X1 hU.lt0 hU.1 rfl 2 (by decide) kf_18 rfl dX1_copyFrom_11 ?_
  refine o_copyi S hG hl.1 (S.2.2.2.2 (.methodLink RX1 37 arraycopyName) (by decide +kernel)) (S.2.2.2.2 (.native arraycopyName) (by decide +kernel)) (S.2.2.2.2 (.static arraycopyName) (by decide +kernel)) (S.2.2.2.2 (.initialized "java/lang/System") (by decide +kernel)) (a := o + 1) (b := t + 1) (sp := 0) (dp := 0) (n := n2) hU.lt1 hT.lt1 hU.2.1 hT.2.1 (by omega) (by omega) (by decide) (by decide) (Nat.le_of_ble_eq_true rfl) (Nat.le_of_ble_eq_true rfl) dX1_copyFrom_14 (fun H locs hG => ?_)
  obtain ⟨f_1, ef_1, hG⟩ := ov_name hG
  have hT := hT.upk ef_1
  have hU := hU.ne ef_1 (by omega) (by omega) (by omega)
  have hO := hO.up ef_1 (by omega)
  refine lv_aload_n S.1 S.2.1 dX1_copyFrom_17 rfl (lv_at hl 1 rfl) ?_
  refine o_get S hG i_X1 hU.lt0 hU.1 rfl 1 (by decide) kf_15 rfl dX1_copyFrom_18 ?_
  refine lv_iconst (v := (nI 0)) S.1 S.2.1 dX1_copyFrom_21 (by decide) ?_
  refine lv_aload_n S.1 S.2.1 dX1_copyFrom_22 rfl (lv_at hl 0 rfl) ?_
  refine o_get S hG i_X1 hT.lt0 hT.1 rfl 1 (by decide) kf_15 rfl dX1_copyFrom_23 ?_
  refine lv_iconst (v := (nI 0)) S.1 S.2.1 dX1_copyFrom_26 (by decide) ?_
  refine lv_aload_n S.1 S.2.1 dX1_copyFrom_27 rfl (lv_at hl 1 rfl) ?_
  refine o_get S hG i_X1 hU.lt0 hU.1 rfl 2 (by decide) kf_18 rfl dX1_copyFrom_28 ?_
  refine o_copyi S hG hl.1 (S.2.2.2.2 (.methodLink RX1 37 arraycopyName) (by decide +kernel)) (S.2.2.2.2 (.native arraycopyName) (by decide +kernel)) (S.2.2.2.2 (.static arraycopyName) (by decide +kernel)) (S.2.2.2.2 (.initialized "java/lang/System") (by decide +kernel)) (a := o + 2) (b := t + 2) (sp := 0) (dp := 0) (n := n2) hU.lt2 hT.lt2 hU.2.2.1 hT.2.2.1 (by omega) (by omega) (by decide) (by decide) (Nat.le_of_ble_eq_true rfl) (Nat.le_of_ble_eq_true rfl) dX1_copyFrom_31 (fun H locs hG => ?_)
  obtain ⟨f_2, ef_2, hG⟩ := ov_name hG
  have hT := hT.upv ef_2
  have hU := hU.ne ef_2 (by omega) (by omega) (by omega)
  have hO := hO.up ef_2 (by omega)
  refine lv_aload_n S.1 S.2.1 dX1_copyFrom_34 rfl (lv_at hl 0 rfl) ?_
  refine lv_aload_n S.1 S.2.1 dX1_copyFrom_35 rfl (lv_at hl 1 rfl) ?_
  refine o_get S hG i_X1 hU.lt0 hU.1 rfl 2 (by decide) kf_18 rfl dX1_copyFrom_36 ?_
  refine o_put S hG i_X1 tyX1_ok nmX1 hT.lt0 hT.1 rfl 2 (by decide) kf_18 rfl rfl rfl (Nat.le_of_ble_eq_true rfl) dX1_copyFrom_39 (fun H locs hG => ?_)
  obtain ⟨f_3, ef_3, hG⟩ := ov_name hG
  have hT := hT.upn ef_3 (n2 := n2) (by omega)
  have hU := hU.ne ef_3 (by omega) (by omega) (by omega)
  have hO := hO.up ef_3 (by omega)
  exact ret _ _ _ _ _ _ _ hG ⟨_, _, hT, hO, fun i hi => ⟨cpy_0 hi, cpy_0 hi⟩⟩ (Nat.le_of_ble_eq_true rfl) (Nat.le_of_ble_eq_true rfl) dX1_copyFrom_42

theorem ha_lt {n a : Nat} {k : Nat → Int32} {x : Int32} (hn : n ≤ 600) (hl : a ≤ n) (h : ha n k (nI a) x = true) : a < 600 := by
  rw [ha_nI (by omega)] at h
  have := (of_decide_eq_true h).1
  omega
theorem sh_t {n2 : Nat} {k2 v2 k v : Nat → Int32} {al : Bool} {i a : Nat} (hb : bel n2 k2 (k i) = a) (hn : n2 ≤ 600) (h : ha n2 k2 (nI a) (k i) = true) (h2 : al = false ∨ v2 a = v i) : sh n2 k2 v2 al k v i = true := by
  subst hb
  rw [ha_bel hn] at h
  simp only [sh, h, Bool.true_and, Bool.or_eq_true, decide_eq_true_eq]
  rcases h2 with h2 | h2
  · left; rw [h2]; rfl
  · right; exact h2
theorem sh_f1 {n2 : Nat} {k2 v2 k v : Nat → Int32} {al : Bool} {i a : Nat} (hb : bel n2 k2 (k i) = a) (hn : n2 ≤ 600) (h : ha n2 k2 (nI a) (k i) = false) : sh n2 k2 v2 al k v i = false := by
  subst hb
  rw [ha_bel hn] at h
  simp only [sh, h, Bool.false_and]
theorem sh_f2 {n2 : Nat} {k2 v2 k v : Nat → Int32} {al : Bool} {i a : Nat} (hb : bel n2 k2 (k i) = a) (h : al = true) (h2 : ¬ v2 a = v i) : sh n2 k2 v2 al k v i = false := by
  subst hb
  simp only [sh, h, h2, Bool.not_true, Bool.false_or, decide_false, Bool.and_false]

set_option maxHeartbeats 4000000 in
set_option maxRecDepth 100000 in
theorem c_X1_countShared (l : Launch) (G : Gx) (N : Nat) (ad : Nat → Nat) (s0 : Nat) (f : Nat → va_E) (t n : Nat) (k v : Nat → Int32) (o n2 : Nat) (k2 v2 : Nat → Int32) (al : Bool) (hT : TB G N ad f t n k v) (hU : TB G N ad f o n2 k2 v2) (hS : Srt n k) : mI l yX1_countShared wsX1_countShared 2 43 0 0 [.ref (ad t), .ref (ad o), .int (bI al)] G N ad s0 f (fun r f' => f = f' ∧ r = nI (cnt n (sh n2 k2 v2 al k v))) := by
  refine ov_mI (cc := cX1_countShared) (maxL := 6) (ty := .int) (by decide) rfl (Nat.le_of_ble_eq_true rfl) ?_
  intro p e s m below meth c av Q S ret hG ls hl
  have S : CallFix p m c cX1_countShared 6 s av wsX1_countShared RX1 := S
  have hl : lv_has ls 6 [(0, .ref (ad t)), (1, .ref (ad o)), (2, .int (bI al))] := hl
  have i_X1 : ∀ w ∈ u_ws RX1 TX1 3, w ∈ wsX1_countShared := by decide +kernel
  have kf_9 := S.2.2.2.2 (.fieldLink RX1 9 "OrderedVersions$Table" "keys" "[I") (by decide +kernel)
  have kf_15 := S.2.2.2.2 (.fieldLink RX1 15 "OrderedVersions$Table" "values" "[I") (by decide +kernel)
  have kf_18 := S.2.2.2.2 (.fieldLink RX1 18 "OrderedVersions$Table" "count" "I") (by decide +kernel)
  have hTn := hT.2.2.2.1
  have hTN := hT.2.2.2.2
  have hUn := hU.2.2.2.1
  have hUN := hU.2.2.2.2
  refine lv_iconst (v := (nI 0)) S.1 S.2.1 dX1_countShared_0 (by decide) ?_
  refine lv_istore_n (lv' := [(3, .int (nI 0)), (0, .ref (ad t)), (1, .ref (ad o)), (2, .int (bI al))]) S.1 S.2.1 dX1_countShared_1 rfl hl (by decide) rfl (fun ls hl => ?_)
  refine lv_iconst (v := (nI 0)) S.1 S.2.1 dX1_countShared_2 (by decide) ?_
  refine lv_istore (lv' := [(4, .int (nI 0)), (3, .int (nI 0)), (0, .ref (ad t)), (1, .ref (ad o)), (2, .int (bI al))]) S.1 S.2.1 dX1_countShared_3 hl (by decide) rfl (fun ls hl => ?_)
  refine lv_iconst (v := (nI 0)) S.1 S.2.1 dX1_countShared_5 (by decide) ?_
  refine lv_istore (lv' := [(5, .int (nI 0)), (4, .int (nI 0)), (3, .int (nI 0)), (0, .ref (ad t)), (1, .ref (ad o)), (2, .int (bI al))]) S.1 S.2.1 dX1_countShared_6 hl (by decide) rfl (fun ls hl => ?_)
  have L_8 : ∀ (d9 : Nat) (c0 : Nat) (a : Nat) (i : Nat) (H : Heap) (locs : List Loc), (i ≤ n) → (a ≤ n2) → (∀ j, j < a → ∀ z, i ≤ z → z < n → k2 j < k z) → (c0 = cnt i (sh n2 k2 v2 al k v)) → (n - i) < d9 → ov_dy G N ad s0 s f H locs → ∀ ls : Array Slot, lv_has ls 6 [(0, .ref (ad t)), (1, .ref (ad o)), (2, .int (bI al)), (3, .int (nI c0)), (4, .int (nI a)), (5, .int (nI i))] → W p l e (ov_rm 2 43 0 0) s m av below meth c H locs 0 0 Q (F0 m 8 ls []) := by
    intro d9
    induction d9 with
    | zero => intro c0 a i H locs hi hla hlo hc h9; exact absurd h9 (Nat.not_lt_zero _)
    | succ d9 ih_8 =>
      intro c0 a i H locs hi hla hlo hc h9 hG ls hl
      refine lv_iload S.1 S.2.1 dX1_countShared_8 (lv_at hl 5 rfl) ?_
      refine lv_aload_n S.1 S.2.1 dX1_countShared_10 rfl (lv_at hl 0 rfl) ?_
      refine o_get S hG i_X1 hT.lt0 hT.1 rfl 2 (by decide) kf_18 rfl dX1_countShared_11 ?_
      refine n_ge S (a := i) (b := n) (tgt := 95) dX1_countShared_14 (by decide) (by omega) (by omega) (fun c_14 => ?_) (fun c_14 => ?_)
      · skip
        refine lv_iload_n S.1 S.2.1 dX1_countShared_95 rfl (lv_at hl 3 rfl) ?_
        exact ret _ _ _ _ _ _ _ _ hG ⟨rfl, by rw [hc, show i = n by omega]⟩ rfl (Nat.le_of_ble_eq_true rfl) (Nat.le_of_ble_eq_true rfl) dX1_countShared_96
      · skip
        have L_17 : ∀ (d9 : Nat) (a : Nat) (H : Heap) (locs : List Loc), (a ≤ n2) → (∀ j, j < a → k2 j < k i) → (n2 - a) < d9 → ov_dy G N ad s0 s f H locs → ∀ ls : Array Slot, lv_has ls 6 [(0, .ref (ad t)), (1, .ref (ad o)), (2, .int (bI al)), (3, .int (nI c0)), (4, .int (nI a)), (5, .int (nI i))] → W p l e (ov_rm 2 43 0 0) s m av below meth c H locs 0 0 Q (F0 m 17 ls []) := by
          intro d9
          induction d9 with
          | zero => intro a H locs hla hlo h9; exact absurd h9 (Nat.not_lt_zero _)
          | succ d9 ih_17 =>
            intro a H locs hla hlo h9 hG ls hl
            refine lv_iload S.1 S.2.1 dX1_countShared_17 (lv_at hl 4 rfl) ?_
            refine lv_aload_n S.1 S.2.1 dX1_countShared_19 rfl (lv_at hl 1 rfl) ?_
            refine o_get S hG i_X1 hU.lt0 hU.1 rfl 2 (by decide) kf_18 rfl dX1_countShared_20 ?_
            refine n_ge S (a := a) (b := n2) (tgt := 49) dX1_countShared_23 (by decide) (by omega) (by omega) (fun c_23 => ?_) (fun c_23 => ?_)
            · skip
              have hbb : bel n2 k2 (k i) = a := bel_eq n2 k2 (k i) a hla hlo (fun h => absurd h (by omega))
              refine lv_aload_n S.1 S.2.1 dX1_countShared_49 rfl (lv_at hl 1 rfl) ?_
              refine lv_iload S.1 S.2.1 dX1_countShared_50 (lv_at hl 4 rfl) ?_
              refine lv_aload_n S.1 S.2.1 dX1_countShared_52 rfl (lv_at hl 0 rfl) ?_
              refine o_get S hG i_X1 hT.lt0 hT.1 rfl 0 (by decide) kf_9 rfl dX1_countShared_53 ?_
              refine lv_iload S.1 S.2.1 dX1_countShared_56 (lv_at hl 5 rfl) ?_
              refine o_iald S hG (j := i) hT.lt1 hT.2.1 (by omega) dX1_countShared_58 (kk := ?_)
              refine o_cVi S (rest := []) (c_X1_hasAt l G N ad s0 f o n2 k2 v2 (nI a) (k i) hU) (cwV 2 S.2.2.2.2 gX1_countShared_X1_hasAt rfl rfl rfl (by decide +kernel) ⟨(Nat.le_of_ble_eq_true rfl), (Nat.le_of_ble_eq_true rfl)⟩) hG hU.lt0 hU.1 rfl rfl hl.1 rfl (Nat.le_of_ble_eq_true rfl) dX1_countShared_59 ⟨(Nat.le_of_ble_eq_true rfl), (Nat.le_of_ble_eq_true rfl)⟩ (fun r9 f9 H locs hp hG => ?_)
              obtain ⟨rfl, rfl⟩ := hp
              refine b_if_eq S (b := (ha n2 k2 (nI a) (k i))) (tgt := 89) dX1_countShared_62 (by decide) (fun c_62 => ?_) (fun c_62 => ?_)
              · skip
                refine lv_iinc (v := (nI (i + 1))) (lv' := [(5, .int (nI (i + 1))), (0, .ref (ad t)), (1, .ref (ad o)), (2, .int (bI al)), (3, .int (nI c0)), (4, .int (nI a))]) S.1 S.2.1 dX1_countShared_89 hl (k := 5) rfl (nI_add i 1) (by decide) rfl (fun ls hl => ?_)
                refine lv_goto (tgt := 8) S.1 S.2.1 dX1_countShared_92 (by decide) ?_
                exact ih_8 c0 a (i + 1) _ _ (by omega) hla (fun j h z h1 h2 => i32_tr (hlo j h) (hS i z (by omega) h2)) (by rw [hc, cnt_f (sh_f1 hbb hUn c_62)]) (by omega) hG ls (lv_sub hl [1, 2, 3, 4, 5, 0] rfl)
              · skip
                refine lv_iload_n S.1 S.2.1 dX1_countShared_65 rfl (lv_at hl 2 rfl) ?_
                refine b_if_eq S (b := al) (tgt := 86) dX1_countShared_66 (by decide) (fun c_66 => ?_) (fun c_66 => ?_)
                · skip
                  refine lv_iinc (v := (nI (c0 + 1))) (lv' := [(3, .int (nI (c0 + 1))), (0, .ref (ad t)), (1, .ref (ad o)), (2, .int (bI al)), (4, .int (nI a)), (5, .int (nI i))]) S.1 S.2.1 dX1_countShared_86 hl (k := 3) rfl (nI_add c0 1) (by decide) rfl (fun ls hl => ?_)
                  refine lv_iinc (v := (nI (i + 1))) (lv' := [(5, .int (nI (i + 1))), (3, .int (nI (c0 + 1))), (0, .ref (ad t)), (1, .ref (ad o)), (2, .int (bI al)), (4, .int (nI a))]) S.1 S.2.1 dX1_countShared_89 hl (k := 5) rfl (nI_add i 1) (by decide) rfl (fun ls hl => ?_)
                  refine lv_goto (tgt := 8) S.1 S.2.1 dX1_countShared_92 (by decide) ?_
                  exact ih_8 (c0 + 1) a (i + 1) _ _ (by omega) hla (fun j h z h1 h2 => i32_tr (hlo j h) (hS i z (by omega) h2)) (by rw [hc, cnt_t (sh_t hbb hUn c_62 (Or.inl c_66))]) (by omega) hG ls (lv_sub hl [2, 3, 4, 1, 5, 0] rfl)
                · skip
                  refine lv_aload_n S.1 S.2.1 dX1_countShared_69 rfl (lv_at hl 1 rfl) ?_
                  refine o_get S hG i_X1 hU.lt0 hU.1 rfl 1 (by decide) kf_15 rfl dX1_countShared_70 ?_
                  refine lv_iload S.1 S.2.1 dX1_countShared_73 (lv_at hl 4 rfl) ?_
                  refine o_iald S hG (j := a) hU.lt2 hU.2.2.1 (ha_lt hUn hla c_62) dX1_countShared_75 (kk := ?_)
                  refine lv_aload_n S.1 S.2.1 dX1_countShared_76 rfl (lv_at hl 0 rfl) ?_
                  refine o_get S hG i_X1 hT.lt0 hT.1 rfl 1 (by decide) kf_15 rfl dX1_countShared_77 ?_
                  refine lv_iload S.1 S.2.1 dX1_countShared_80 (lv_at hl 5 rfl) ?_
                  refine o_iald S hG (j := i) hT.lt2 hT.2.2.1 (by omega) dX1_countShared_82 (kk := ?_)
                  refine lv_icmp_ne (tgt := 89) S.1 S.2.1 dX1_countShared_83 (by decide) (fun c_83 => ?_) (fun c_83 => ?_)
                  · skip
                    refine lv_iinc (v := (nI (i + 1))) (lv' := [(5, .int (nI (i + 1))), (0, .ref (ad t)), (1, .ref (ad o)), (2, .int (bI al)), (3, .int (nI c0)), (4, .int (nI a))]) S.1 S.2.1 dX1_countShared_89 hl (k := 5) rfl (nI_add i 1) (by decide) rfl (fun ls hl => ?_)
                    refine lv_goto (tgt := 8) S.1 S.2.1 dX1_countShared_92 (by decide) ?_
                    exact ih_8 c0 a (i + 1) _ _ (by omega) hla (fun j h z h1 h2 => i32_tr (hlo j h) (hS i z (by omega) h2)) (by rw [hc, cnt_f (sh_f2 hbb c_66 c_83)]) (by omega) hG ls (lv_sub hl [1, 2, 3, 4, 5, 0] rfl)
                  · skip
                    refine lv_iinc (v := (nI (c0 + 1))) (lv' := [(3, .int (nI (c0 + 1))), (0, .ref (ad t)), (1, .ref (ad o)), (2, .int (bI al)), (4, .int (nI a)), (5, .int (nI i))]) S.1 S.2.1 dX1_countShared_86 hl (k := 3) rfl (nI_add c0 1) (by decide) rfl (fun ls hl => ?_)
                    refine lv_iinc (v := (nI (i + 1))) (lv' := [(5, .int (nI (i + 1))), (3, .int (nI (c0 + 1))), (0, .ref (ad t)), (1, .ref (ad o)), (2, .int (bI al)), (4, .int (nI a))]) S.1 S.2.1 dX1_countShared_89 hl (k := 5) rfl (nI_add i 1) (by decide) rfl (fun ls hl => ?_)
                    refine lv_goto (tgt := 8) S.1 S.2.1 dX1_countShared_92 (by decide) ?_
                    exact ih_8 (c0 + 1) a (i + 1) _ _ (by omega) hla (fun j h z h1 h2 => i32_tr (hlo j h) (hS i z (by omega) h2)) (by rw [hc, cnt_t (sh_t hbb hUn c_62 (Or.inr c_83))]) (by omega) hG ls (lv_sub hl [2, 3, 4, 1, 5, 0] rfl)
            · skip
              refine lv_aload_n S.1 S.2.1 dX1_countShared_26 rfl (lv_at hl 1 rfl) ?_
              refine o_get S hG i_X1 hU.lt0 hU.1 rfl 0 (by decide) kf_9 rfl dX1_countShared_27 ?_
              refine lv_iload S.1 S.2.1 dX1_countShared_30 (lv_at hl 4 rfl) ?_
              refine o_iald S hG (j := a) hU.lt1 hU.2.1 (by omega) dX1_countShared_32 (kk := ?_)
              refine lv_aload_n S.1 S.2.1 dX1_countShared_33 rfl (lv_at hl 0 rfl) ?_
              refine o_get S hG i_X1 hT.lt0 hT.1 rfl 0 (by decide) kf_9 rfl dX1_countShared_34 ?_
              refine lv_iload S.1 S.2.1 dX1_countShared_37 (lv_at hl 5 rfl) ?_
              refine o_iald S hG (j := i) hT.lt1 hT.2.1 (by omega) dX1_countShared_39 (kk := ?_)
              refine lv_icmp_ge (tgt := 49) S.1 S.2.1 dX1_countShared_40 (by decide) (fun c_40 => ?_) (fun c_40 => ?_)
              · skip
                have hbb : bel n2 k2 (k i) = a := bel_eq n2 k2 (k i) a hla hlo (fun _ => i32_nlt c_40)
                refine lv_aload_n S.1 S.2.1 dX1_countShared_49 rfl (lv_at hl 1 rfl) ?_
                refine lv_iload S.1 S.2.1 dX1_countShared_50 (lv_at hl 4 rfl) ?_
                refine lv_aload_n S.1 S.2.1 dX1_countShared_52 rfl (lv_at hl 0 rfl) ?_
                refine o_get S hG i_X1 hT.lt0 hT.1 rfl 0 (by decide) kf_9 rfl dX1_countShared_53 ?_
                refine lv_iload S.1 S.2.1 dX1_countShared_56 (lv_at hl 5 rfl) ?_
                refine o_iald S hG (j := i) hT.lt1 hT.2.1 (by omega) dX1_countShared_58 (kk := ?_)
                refine o_cVi S (rest := []) (c_X1_hasAt l G N ad s0 f o n2 k2 v2 (nI a) (k i) hU) (cwV 2 S.2.2.2.2 gX1_countShared_X1_hasAt rfl rfl rfl (by decide +kernel) ⟨(Nat.le_of_ble_eq_true rfl), (Nat.le_of_ble_eq_true rfl)⟩) hG hU.lt0 hU.1 rfl rfl hl.1 rfl (Nat.le_of_ble_eq_true rfl) dX1_countShared_59 ⟨(Nat.le_of_ble_eq_true rfl), (Nat.le_of_ble_eq_true rfl)⟩ (fun r9 f9 H locs hp hG => ?_)
                obtain ⟨rfl, rfl⟩ := hp
                refine b_if_eq S (b := (ha n2 k2 (nI a) (k i))) (tgt := 89) dX1_countShared_62 (by decide) (fun c_62 => ?_) (fun c_62 => ?_)
                · skip
                  refine lv_iinc (v := (nI (i + 1))) (lv' := [(5, .int (nI (i + 1))), (0, .ref (ad t)), (1, .ref (ad o)), (2, .int (bI al)), (3, .int (nI c0)), (4, .int (nI a))]) S.1 S.2.1 dX1_countShared_89 hl (k := 5) rfl (nI_add i 1) (by decide) rfl (fun ls hl => ?_)
                  refine lv_goto (tgt := 8) S.1 S.2.1 dX1_countShared_92 (by decide) ?_
                  exact ih_8 c0 a (i + 1) _ _ (by omega) hla (fun j h z h1 h2 => i32_tr (hlo j h) (hS i z (by omega) h2)) (by rw [hc, cnt_f (sh_f1 hbb hUn c_62)]) (by omega) hG ls (lv_sub hl [1, 2, 3, 4, 5, 0] rfl)
                · skip
                  refine lv_iload_n S.1 S.2.1 dX1_countShared_65 rfl (lv_at hl 2 rfl) ?_
                  refine b_if_eq S (b := al) (tgt := 86) dX1_countShared_66 (by decide) (fun c_66 => ?_) (fun c_66 => ?_)
                  · skip
                    refine lv_iinc (v := (nI (c0 + 1))) (lv' := [(3, .int (nI (c0 + 1))), (0, .ref (ad t)), (1, .ref (ad o)), (2, .int (bI al)), (4, .int (nI a)), (5, .int (nI i))]) S.1 S.2.1 dX1_countShared_86 hl (k := 3) rfl (nI_add c0 1) (by decide) rfl (fun ls hl => ?_)
                    refine lv_iinc (v := (nI (i + 1))) (lv' := [(5, .int (nI (i + 1))), (3, .int (nI (c0 + 1))), (0, .ref (ad t)), (1, .ref (ad o)), (2, .int (bI al)), (4, .int (nI a))]) S.1 S.2.1 dX1_countShared_89 hl (k := 5) rfl (nI_add i 1) (by decide) rfl (fun ls hl => ?_)
                    refine lv_goto (tgt := 8) S.1 S.2.1 dX1_countShared_92 (by decide) ?_
                    exact ih_8 (c0 + 1) a (i + 1) _ _ (by omega) hla (fun j h z h1 h2 => i32_tr (hlo j h) (hS i z (by omega) h2)) (by rw [hc, cnt_t (sh_t hbb hUn c_62 (Or.inl c_66))]) (by omega) hG ls (lv_sub hl [2, 3, 4, 1, 5, 0] rfl)
                  · skip
                    refine lv_aload_n S.1 S.2.1 dX1_countShared_69 rfl (lv_at hl 1 rfl) ?_
                    refine o_get S hG i_X1 hU.lt0 hU.1 rfl 1 (by decide) kf_15 rfl dX1_countShared_70 ?_
                    refine lv_iload S.1 S.2.1 dX1_countShared_73 (lv_at hl 4 rfl) ?_
                    refine o_iald S hG (j := a) hU.lt2 hU.2.2.1 (ha_lt hUn hla c_62) dX1_countShared_75 (kk := ?_)
                    refine lv_aload_n S.1 S.2.1 dX1_countShared_76 rfl (lv_at hl 0 rfl) ?_
                    refine o_get S hG i_X1 hT.lt0 hT.1 rfl 1 (by decide) kf_15 rfl dX1_countShared_77 ?_
                    refine lv_iload S.1 S.2.1 dX1_countShared_80 (lv_at hl 5 rfl) ?_
                    refine o_iald S hG (j := i) hT.lt2 hT.2.2.1 (by omega) dX1_countShared_82 (kk := ?_)
                    refine lv_icmp_ne (tgt := 89) S.1 S.2.1 dX1_countShared_83 (by decide) (fun c_83 => ?_) (fun c_83 => ?_)
                    · skip
                      refine lv_iinc (v := (nI (i + 1))) (lv' := [(5, .int (nI (i + 1))), (0, .ref (ad t)), (1, .ref (ad o)), (2, .int (bI al)), (3, .int (nI c0)), (4, .int (nI a))]) S.1 S.2.1 dX1_countShared_89 hl (k := 5) rfl (nI_add i 1) (by decide) rfl (fun ls hl => ?_)
                      refine lv_goto (tgt := 8) S.1 S.2.1 dX1_countShared_92 (by decide) ?_
                      exact ih_8 c0 a (i + 1) _ _ (by omega) hla (fun j h z h1 h2 => i32_tr (hlo j h) (hS i z (by omega) h2)) (by rw [hc, cnt_f (sh_f2 hbb c_66 c_83)]) (by omega) hG ls (lv_sub hl [1, 2, 3, 4, 5, 0] rfl)
                    · skip
                      refine lv_iinc (v := (nI (c0 + 1))) (lv' := [(3, .int (nI (c0 + 1))), (0, .ref (ad t)), (1, .ref (ad o)), (2, .int (bI al)), (4, .int (nI a)), (5, .int (nI i))]) S.1 S.2.1 dX1_countShared_86 hl (k := 3) rfl (nI_add c0 1) (by decide) rfl (fun ls hl => ?_)
                      refine lv_iinc (v := (nI (i + 1))) (lv' := [(5, .int (nI (i + 1))), (3, .int (nI (c0 + 1))), (0, .ref (ad t)), (1, .ref (ad o)), (2, .int (bI al)), (4, .int (nI a))]) S.1 S.2.1 dX1_countShared_89 hl (k := 5) rfl (nI_add i 1) (by decide) rfl (fun ls hl => ?_)
                      refine lv_goto (tgt := 8) S.1 S.2.1 dX1_countShared_92 (by decide) ?_
                      exact ih_8 (c0 + 1) a (i + 1) _ _ (by omega) hla (fun j h z h1 h2 => i32_tr (hlo j h) (hS i z (by omega) h2)) (by rw [hc, cnt_t (sh_t hbb hUn c_62 (Or.inr c_83))]) (by omega) hG ls (lv_sub hl [2, 3, 4, 1, 5, 0] rfl)
              · skip
                refine lv_iinc (v := (nI (a + 1))) (lv' := [(4, .int (nI (a + 1))), (0, .ref (ad t)), (1, .ref (ad o)), (2, .int (bI al)), (3, .int (nI c0)), (5, .int (nI i))]) S.1 S.2.1 dX1_countShared_43 hl (k := 4) rfl (nI_add a 1) (by decide) rfl (fun ls hl => ?_)
                refine lv_goto (tgt := 17) S.1 S.2.1 dX1_countShared_46 (by decide) ?_
                exact ih_17 (a + 1) _ _ (by omega) (lt_s hlo (i32_of_nle c_40)) (by omega) hG ls (lv_sub hl [1, 2, 3, 4, 0, 5] rfl)
        exact L_17 _ a _ _ hla (fun j h => hlo j h i (Nat.le_refl _) (by omega)) (Nat.lt_succ_self _) hG ls (lv_sub hl [0, 1, 2, 3, 4, 5] rfl)
  exact L_8 _ 0 0 0 _ _ (Nat.zero_le _) (Nat.zero_le _) (fun j h => absurd h (Nat.not_lt_zero _)) rfl (Nat.lt_succ_self _) hG ls (lv_sub hl [3, 4, 5, 2, 1, 0] rfl)

set_option maxHeartbeats 4000000 in
set_option maxRecDepth 100000 in
theorem c_X1_countAlikeAtStart (l : Launch) (G : Gx) (N : Nat) (ad : Nat → Nat) (s0 : Nat) (f : Nat → va_E) (t n : Nat) (k v : Nat → Int32) (o n2 : Nat) (k2 v2 : Nat → Int32) (hT : TB G N ad f t n k v) (hU : TB G N ad f o n2 k2 v2) : mI l yX1_countAlikeAtStart wsX1_countAlikeAtStart 1 40 0 0 [.ref (ad t), .ref (ad o)] G N ad s0 f (fun r f' => f = f' ∧ ∃ i, r = nI i ∧ i ≤ n ∧ i ≤ n2 ∧ (∀ j, j < i → k j = k2 j ∧ v j = v2 j) ∧ (i < n → i < n2 → ¬ (k i = k2 i ∧ v i = v2 i))) := by
  refine ov_mI (cc := cX1_countAlikeAtStart) (maxL := 4) (ty := .int) (by decide) rfl (Nat.le_of_ble_eq_true rfl) ?_
  intro p e s m below meth c av Q S ret hG ls hl
  have S : CallFix p m c cX1_countAlikeAtStart 4 s av wsX1_countAlikeAtStart RX1 := S
  have hl : lv_has ls 4 [(0, .ref (ad t)), (1, .ref (ad o))] := hl
  have i_X1 : ∀ w ∈ u_ws RX1 TX1 3, w ∈ wsX1_countAlikeAtStart := by decide +kernel
  have kf_9 := S.2.2.2.2 (.fieldLink RX1 9 "OrderedVersions$Table" "keys" "[I") (by decide +kernel)
  have kf_15 := S.2.2.2.2 (.fieldLink RX1 15 "OrderedVersions$Table" "values" "[I") (by decide +kernel)
  have kf_18 := S.2.2.2.2 (.fieldLink RX1 18 "OrderedVersions$Table" "count" "I") (by decide +kernel)
  have hTn := hT.2.2.2.1
  have hTN := hT.2.2.2.2
  have hUn := hU.2.2.2.1
  have hUN := hU.2.2.2.2
  refine lv_aload_n S.1 S.2.1 dX1_countAlikeAtStart_0 rfl (lv_at hl 0 rfl) ?_
  refine o_get S hG i_X1 hT.lt0 hT.1 rfl 2 (by decide) kf_18 rfl dX1_countAlikeAtStart_1 ?_
  refine lv_aload_n S.1 S.2.1 dX1_countAlikeAtStart_4 rfl (lv_at hl 1 rfl) ?_
  refine o_get S hG i_X1 hU.lt0 hU.1 rfl 2 (by decide) kf_18 rfl dX1_countAlikeAtStart_5 ?_
  refine va_mmin S.1 S.2.1 (S.2.2.1.trans hl.1.symm) S.2.2.2.1 (S.2.2.2.2 (.methodLink RX1 43 Lib.Math.min.name) (by decide +kernel)) (S.2.2.2.2 (.static Lib.Math.min.name) (by decide +kernel)) (S.2.2.2.2 (.initialized "java/lang/Math") (by decide +kernel)) (S.2.2.2.2 (.code Lib.Math.min.name Lib.Math.min.code 2 (some .int)) (by decide +kernel)) (Nat.le_of_ble_eq_true rfl) (Nat.le_of_ble_eq_true rfl) (Nat.le_of_ble_eq_true rfl) (Nat.le_of_ble_eq_true rfl) dX1_countAlikeAtStart_8 ?_
  refine o_top (nI_min (by omega) (by omega)) ?_
  refine lv_istore_n (lv' := [(2, .int (nI (min n n2))), (0, .ref (ad t)), (1, .ref (ad o))]) S.1 S.2.1 dX1_countAlikeAtStart_11 rfl hl (by decide) rfl (fun ls hl => ?_)
  refine lv_iconst (v := (nI 0)) S.1 S.2.1 dX1_countAlikeAtStart_12 (by decide) ?_
  refine lv_istore_n (lv' := [(3, .int (nI 0)), (2, .int (nI (min n n2))), (0, .ref (ad t)), (1, .ref (ad o))]) S.1 S.2.1 dX1_countAlikeAtStart_13 rfl hl (by decide) rfl (fun ls hl => ?_)
  have L_14 : ∀ (d9 : Nat) (i : Nat) (H : Heap) (locs : List Loc), (i ≤ min n n2) → (∀ j, j < i → k j = k2 j ∧ v j = v2 j) → (min n n2 - i) < d9 → ov_dy G N ad s0 s f H locs → ∀ ls : Array Slot, lv_has ls 4 [(0, .ref (ad t)), (1, .ref (ad o)), (2, .int (nI (min n n2))), (3, .int (nI i))] → W p l e (ov_rm 1 40 0 0) s m av below meth c H locs 0 0 Q (F0 m 14 ls []) := by
    intro d9
    induction d9 with
    | zero => intro i H locs hi hk h9; exact absurd h9 (Nat.not_lt_zero _)
    | succ d9 ih_14 =>
      intro i H locs hi hk h9 hG ls hl
      refine lv_iload_n S.1 S.2.1 dX1_countAlikeAtStart_14 rfl (lv_at hl 3 rfl) ?_
      refine lv_iload_n S.1 S.2.1 dX1_countAlikeAtStart_15 rfl (lv_at hl 2 rfl) ?_
      refine n_ge S (a := i) (b := min n n2) (tgt := 55) dX1_countAlikeAtStart_16 (by decide) (by omega) (by omega) (fun c_16 => ?_) (fun c_16 => ?_)
      · skip
        refine lv_iload_n S.1 S.2.1 dX1_countAlikeAtStart_55 rfl (lv_at hl 3 rfl) ?_
        exact ret _ _ _ _ _ _ _ _ hG ⟨rfl, i, rfl, by omega, by omega, hk, fun h1 h2 => absurd h1 (by omega)⟩ rfl (Nat.le_of_ble_eq_true rfl) (Nat.le_of_ble_eq_true rfl) dX1_countAlikeAtStart_56
      · skip
        refine lv_aload_n S.1 S.2.1 dX1_countAlikeAtStart_19 rfl (lv_at hl 0 rfl) ?_
        refine o_get S hG i_X1 hT.lt0 hT.1 rfl 0 (by decide) kf_9 rfl dX1_countAlikeAtStart_20 ?_
        refine lv_iload_n S.1 S.2.1 dX1_countAlikeAtStart_23 rfl (lv_at hl 3 rfl) ?_
        refine o_iald S hG (j := i) hT.lt1 hT.2.1 (by omega) dX1_countAlikeAtStart_24 (kk := ?_)
        refine lv_aload_n S.1 S.2.1 dX1_countAlikeAtStart_25 rfl (lv_at hl 1 rfl) ?_
        refine o_get S hG i_X1 hU.lt0 hU.1 rfl 0 (by decide) kf_9 rfl dX1_countAlikeAtStart_26 ?_
        refine lv_iload_n S.1 S.2.1 dX1_countAlikeAtStart_29 rfl (lv_at hl 3 rfl) ?_
        refine o_iald S hG (j := i) hU.lt1 hU.2.1 (by omega) dX1_countAlikeAtStart_30 (kk := ?_)
        refine lv_icmp_ne (tgt := 55) S.1 S.2.1 dX1_countAlikeAtStart_31 (by decide) (fun c_31 => ?_) (fun c_31 => ?_)
        · skip
          refine lv_iload_n S.1 S.2.1 dX1_countAlikeAtStart_55 rfl (lv_at hl 3 rfl) ?_
          exact ret _ _ _ _ _ _ _ _ hG ⟨rfl, i, rfl, by omega, by omega, hk, fun _ _ h => absurd h.1 c_31⟩ rfl (Nat.le_of_ble_eq_true rfl) (Nat.le_of_ble_eq_true rfl) dX1_countAlikeAtStart_56
        · skip
          refine lv_aload_n S.1 S.2.1 dX1_countAlikeAtStart_34 rfl (lv_at hl 0 rfl) ?_
          refine o_get S hG i_X1 hT.lt0 hT.1 rfl 1 (by decide) kf_15 rfl dX1_countAlikeAtStart_35 ?_
          refine lv_iload_n S.1 S.2.1 dX1_countAlikeAtStart_38 rfl (lv_at hl 3 rfl) ?_
          refine o_iald S hG (j := i) hT.lt2 hT.2.2.1 (by omega) dX1_countAlikeAtStart_39 (kk := ?_)
          refine lv_aload_n S.1 S.2.1 dX1_countAlikeAtStart_40 rfl (lv_at hl 1 rfl) ?_
          refine o_get S hG i_X1 hU.lt0 hU.1 rfl 1 (by decide) kf_15 rfl dX1_countAlikeAtStart_41 ?_
          refine lv_iload_n S.1 S.2.1 dX1_countAlikeAtStart_44 rfl (lv_at hl 3 rfl) ?_
          refine o_iald S hG (j := i) hU.lt2 hU.2.2.1 (by omega) dX1_countAlikeAtStart_45 (kk := ?_)
          refine lv_icmp_ne (tgt := 55) S.1 S.2.1 dX1_countAlikeAtStart_46 (by decide) (fun c_46 => ?_) (fun c_46 => ?_)
          · skip
            refine lv_iload_n S.1 S.2.1 dX1_countAlikeAtStart_55 rfl (lv_at hl 3 rfl) ?_
            exact ret _ _ _ _ _ _ _ _ hG ⟨rfl, i, rfl, by omega, by omega, hk, fun _ _ h => absurd h.2 c_46⟩ rfl (Nat.le_of_ble_eq_true rfl) (Nat.le_of_ble_eq_true rfl) dX1_countAlikeAtStart_56
          · skip
            refine lv_iinc (v := (nI (i + 1))) (lv' := [(3, .int (nI (i + 1))), (0, .ref (ad t)), (1, .ref (ad o)), (2, .int (nI (min n n2)))]) S.1 S.2.1 dX1_countAlikeAtStart_49 hl (k := 3) rfl (nI_add i 1) (by decide) rfl (fun ls hl => ?_)
            refine lv_goto (tgt := 14) S.1 S.2.1 dX1_countAlikeAtStart_52 (by decide) ?_
            exact ih_14 (i + 1) _ _ (by omega) (lt_s hk ⟨c_31, c_46⟩) (by omega) hG ls (lv_sub hl [1, 2, 3, 0] rfl)
  exact L_14 _ 0 _ _ (Nat.zero_le _) (fun j h => absurd h (Nat.not_lt_zero _)) (Nat.lt_succ_self _) hG ls (lv_sub hl [2, 3, 1, 0] rfl)

set_option maxHeartbeats 4000000 in
set_option maxRecDepth 100000 in
theorem c_X1_countWrong (l : Launch) (G : Gx) (N : Nat) (ad : Nat → Nat) (s0 : Nat) (f : Nat → va_E) (t n : Nat) (k v : Nat → Int32) (tk : Bool) (hT : TB G N ad f t n k v) (hS : Srt n k) (h0 : tk = false → n = 0) : mI l yX1_countWrong wsX1_countWrong 0 0 0 0 [.ref (ad t), .int (bI tk)] G N ad s0 f (fun r f' => f = f' ∧ r = nI 0) := by
  refine ov_mI (cc := cX1_countWrong) (maxL := 4) (ty := .int) (by decide) rfl (Nat.le_of_ble_eq_true rfl) ?_
  intro p e s m below meth c av Q S ret hG ls hl
  have S : CallFix p m c cX1_countWrong 4 s av wsX1_countWrong RX1 := S
  have hl : lv_has ls 4 [(0, .ref (ad t)), (1, .int (bI tk))] := hl
  have i_X1 : ∀ w ∈ u_ws RX1 TX1 3, w ∈ wsX1_countWrong := by decide +kernel
  have kf_9 := S.2.2.2.2 (.fieldLink RX1 9 "OrderedVersions$Table" "keys" "[I") (by decide +kernel)
  have kf_18 := S.2.2.2.2 (.fieldLink RX1 18 "OrderedVersions$Table" "count" "I") (by decide +kernel)
  have hTn := hT.2.2.2.1
  have hTN := hT.2.2.2.2
  refine lv_iload_n S.1 S.2.1 dX1_countWrong_0 rfl (lv_at hl 1 rfl) ?_
  refine b_if_ne S (b := tk) (tgt := 17) dX1_countWrong_1 (by decide) (fun c_1 => ?_) (fun c_1 => ?_)
  · skip
    refine lv_aload_n S.1 S.2.1 dX1_countWrong_17 rfl (lv_at hl 0 rfl) ?_
    refine o_get S hG i_X1 hT.lt0 hT.1 rfl 2 (by decide) kf_18 rfl dX1_countWrong_18 ?_
    refine lv_if_lt (tgt := 34) S.1 S.2.1 dX1_countWrong_21 (by decide) (fun c_21 => ?_) (fun c_21 => ?_)
    · skip
      exact absurd c_21 (nI_pos (by omega))
    · skip
      refine lv_aload_n S.1 S.2.1 dX1_countWrong_24 rfl (lv_at hl 0 rfl) ?_
      refine o_get S hG i_X1 hT.lt0 hT.1 rfl 2 (by decide) kf_18 rfl dX1_countWrong_25 ?_
      refine lv_sipush (v := (nI 600)) S.1 S.2.1 dX1_countWrong_28 (by decide) ?_
      refine n_le S (a := n) (b := 600) (tgt := 36) dX1_countWrong_31 (by decide) (by omega) (by omega) (fun c_31 => ?_) (fun c_31 => ?_)
      · skip
        refine lv_iconst (v := (nI 0)) S.1 S.2.1 dX1_countWrong_36 (by decide) ?_
        refine lv_istore_n (lv' := [(2, .int (nI 0)), (0, .ref (ad t)), (1, .int (bI tk))]) S.1 S.2.1 dX1_countWrong_37 rfl hl (by decide) rfl (fun ls hl => ?_)
        refine lv_iconst (v := (nI 1)) S.1 S.2.1 dX1_countWrong_38 (by decide) ?_
        refine lv_istore_n (lv' := [(3, .int (nI 1)), (2, .int (nI 0)), (0, .ref (ad t)), (1, .int (bI tk))]) S.1 S.2.1 dX1_countWrong_39 rfl hl (by decide) rfl (fun ls hl => ?_)
        have L_40 : ∀ (d9 : Nat) (i : Nat) (H : Heap) (locs : List Loc), (1 ≤ i ∧ i ≤ n + 1) → (n - i) < d9 → ov_dy G N ad s0 s f H locs → ∀ ls : Array Slot, lv_has ls 4 [(0, .ref (ad t)), (1, .int (bI tk)), (2, .int (nI 0)), (3, .int (nI i))] → W p l e (ov_rm 0 0 0 0) s m av below meth c H locs 0 0 Q (F0 m 40 ls []) := by
          intro d9
          induction d9 with
          | zero => intro i H locs hi h9; exact absurd h9 (Nat.not_lt_zero _)
          | succ d9 ih_40 =>
            intro i H locs hi h9 hG ls hl
            refine lv_iload_n S.1 S.2.1 dX1_countWrong_40 rfl (lv_at hl 3 rfl) ?_
            refine lv_aload_n S.1 S.2.1 dX1_countWrong_41 rfl (lv_at hl 0 rfl) ?_
            refine o_get S hG i_X1 hT.lt0 hT.1 rfl 2 (by decide) kf_18 rfl dX1_countWrong_42 ?_
            refine n_ge S (a := i) (b := n) (tgt := 74) dX1_countWrong_45 (by decide) (by omega) (by omega) (fun c_45 => ?_) (fun c_45 => ?_)
            · skip
              refine lv_iload_n S.1 S.2.1 dX1_countWrong_74 rfl (lv_at hl 2 rfl) ?_
              exact ret _ _ _ _ _ _ _ _ hG ⟨rfl, rfl⟩ rfl (Nat.le_of_ble_eq_true rfl) (Nat.le_of_ble_eq_true rfl) dX1_countWrong_75
            · skip
              refine lv_aload_n S.1 S.2.1 dX1_countWrong_48 rfl (lv_at hl 0 rfl) ?_
              refine o_get S hG i_X1 hT.lt0 hT.1 rfl 0 (by decide) kf_9 rfl dX1_countWrong_49 ?_
              refine lv_iload_n S.1 S.2.1 dX1_countWrong_52 rfl (lv_at hl 3 rfl) ?_
              refine lv_iconst (v := (nI 1)) S.1 S.2.1 dX1_countWrong_53 (by decide) ?_
              refine o_sub S (a := i) (b := 1) dX1_countWrong_54 (by omega) ?_
              refine o_iald S hG (j := i - 1) hT.lt1 hT.2.1 (by omega) dX1_countWrong_55 (kk := ?_)
              refine lv_aload_n S.1 S.2.1 dX1_countWrong_56 rfl (lv_at hl 0 rfl) ?_
              refine o_get S hG i_X1 hT.lt0 hT.1 rfl 0 (by decide) kf_9 rfl dX1_countWrong_57 ?_
              refine lv_iload_n S.1 S.2.1 dX1_countWrong_60 rfl (lv_at hl 3 rfl) ?_
              refine o_iald S hG (j := i) hT.lt1 hT.2.1 (by omega) dX1_countWrong_61 (kk := ?_)
              refine lv_icmp_lt (tgt := 68) S.1 S.2.1 dX1_countWrong_62 (by decide) (fun c_62 => ?_) (fun c_62 => ?_)
              · skip
                refine lv_iinc (v := (nI (i + 1))) (lv' := [(3, .int (nI (i + 1))), (0, .ref (ad t)), (1, .int (bI tk)), (2, .int (nI 0))]) S.1 S.2.1 dX1_countWrong_68 hl (k := 3) rfl (nI_add i 1) (by decide) rfl (fun ls hl => ?_)
                refine lv_goto (tgt := 40) S.1 S.2.1 dX1_countWrong_71 (by decide) ?_
                exact ih_40 (i + 1) _ _ (by omega) (by omega) hG ls (lv_sub hl [1, 2, 3, 0] rfl)
              · skip
                exact absurd (hS _ _ (by omega) (by omega)) c_62
        exact L_40 _ 1 _ _ (by omega) (Nat.lt_succ_self _) hG ls (lv_sub hl [2, 3, 1, 0] rfl)
      · skip
        omega
  · skip
    refine lv_aload_n S.1 S.2.1 dX1_countWrong_4 rfl (lv_at hl 0 rfl) ?_
    refine o_get S hG i_X1 hT.lt0 hT.1 rfl 2 (by decide) kf_18 rfl dX1_countWrong_5 ?_
    refine n_if_ne S (a := n) (tgt := 15) dX1_countWrong_8 (by decide) (by omega) (fun c_8 => ?_) (fun c_8 => ?_)
    · skip
      exact absurd (h0 c_1) c_8
    · skip
      refine lv_iconst (v := (nI 0)) S.1 S.2.1 dX1_countWrong_11 (by decide) ?_
      refine lv_goto (tgt := 16) S.1 S.2.1 dX1_countWrong_12 (by decide) ?_
      exact ret _ _ _ _ _ _ _ _ hG ⟨rfl, rfl⟩ rfl (Nat.le_of_ble_eq_true rfl) (Nat.le_of_ble_eq_true rfl) dX1_countWrong_16

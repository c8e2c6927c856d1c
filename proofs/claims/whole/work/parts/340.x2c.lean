set_option maxHeartbeats 4000000 in
set_option maxRecDepth 100000 in
theorem c_X2_differs (l : Launch) (hst : l.stackTraces = false) (G : Gx) (ad : Nat → Nat) (s0 : Nat) (f : Nat → va_E) (th : Nat → Bool) (cx : Nat → Nat) (kx vx : Nat → Nat → Int32) (px : Nat → Int) (dx : Nat → Bool) (v o : Int32) (hX : RX G ad f th cx kx vx px dx) (hS : ∀ j, j < 21 → Srt (cx j) (kx j))  : xI l yX2_differs wsX2_differs 7 131 2 12 [.ref (ad 0), .int v, .int o] G 84 ad s0 f (fun E => (E = xIO ∧ (isv th v = false ∨ isv th o = false))) (fun r f' => f = f' ∧ ∃ j d, j ≤ 12 ∧ d ≤ 12 ∧ v = nI j ∧ o = nI d ∧ th j = true ∧ th d = true ∧ r = nI (cx j + cx d) - nI (cnt (cx j) (sh (cx d) (kx d) (vx d) false (kx j) (vx j))) - nI (cnt (cx j) (sh (cx d) (kx d) (vx d) true (kx j) (vx j)))) := by
  refine ov_xI (cc := cX2_differs) (maxL := 5) (ty := .int) hst (by decide) rfl (Nat.le_of_ble_eq_true rfl) ?_
  intro p e s m below meth c av Q S ret thx tht hG ls hl
  have S : CallFix p m c cX2_differs 5 s av wsX2_differs RX2 := S
  have hl : lv_has ls 5 [(0, .ref (ad 0)), (1, .int v), (2, .int o)] := hl
  have i_X1 : ∀ w ∈ u_ws RX1 TX1 3, w ∈ wsX2_differs := by decide +kernel
  have kf_46 := S.2.2.2.2 (.fieldLink RX2 46 "OrderedVersions$Table" "count" "I") (by decide +kernel)
  obtain ⟨hX0, ⟨g4, hX4, hg4⟩, ⟨g5, hX5, hg5⟩, ⟨g42, hX42, hg42⟩, ⟨g43, hX43, hg43⟩, hXT, hXC⟩ := id hX
  have hT0 : TB G 84 ad f 1 (cx 0) (kx 0) (vx 0) := hXT 0 (by decide)
  have hT0n := hT0.2.2.2.1
  have hS0 := hS 0 (by decide)
  refine lv_aload_n S.1 S.2.1 dX2_differs_0 rfl (lv_at hl 0 rfl) ?_
  refine lv_iload_n S.1 S.2.1 dX2_differs_1 rfl (lv_at hl 1 rfl) ?_
  refine o_xVr S (rest := []) (c_X2_mapOf l hst G ad s0 f th cx kx vx px dx v hX hS ) (cwV 1 S.2.2.2.2 gX2_differs_X2_mapOf rfl rfl rfl (by decide +kernel) ⟨(Nat.le_of_ble_eq_true rfl), (Nat.le_of_ble_eq_true rfl)⟩) hG (by decide) hX0 rfl rfl hl.1 rfl (Nat.le_of_ble_eq_true rfl) dX2_differs_2 ⟨(Nat.le_of_ble_eq_true rfl), (Nat.le_of_ble_eq_true rfl)⟩ (fun E ce q9 H locs hE hG h1 h2 h3 => thx E ce q9 _ _ _ _ _ _ _ hG (⟨hE.1, Or.inl hE.2⟩) h1 h2 h3 (Nat.le_of_ble_eq_true rfl) (Nat.le_of_ble_eq_true rfl)) (fun r9 f9 H locs hp hG => ?_)
  obtain ⟨rfl, j, hj2, rfl, hj3, rfl⟩ := hp
  have hTj := hXT j (by omega)
  have hTjn := hTj.2.2.2.1
  have hSj := hS j (by omega)
  have htj := tc_v hj2
  refine lv_astore_n (lv' := [(3, .ref (ad (tc j))), (0, .ref (ad 0)), (1, .int (nI j)), (2, .int o)]) S.1 S.2.1 dX2_differs_5 rfl hl (by decide) rfl (fun ls hl => ?_)
  refine lv_aload_n S.1 S.2.1 dX2_differs_6 rfl (lv_at hl 1 rfl) ?_
  refine lv_iload_n S.1 S.2.1 dX2_differs_7 rfl (lv_at hl 3 rfl) ?_
  refine o_xVr S (rest := []) (c_X2_mapOf l hst G ad s0 f th cx kx vx px dx o hX hS ) (cwV 1 S.2.2.2.2 gX2_differs_X2_mapOf rfl rfl rfl (by decide +kernel) ⟨(Nat.le_of_ble_eq_true rfl), (Nat.le_of_ble_eq_true rfl)⟩) hG (by decide) hX0 rfl rfl hl.1 rfl (Nat.le_of_ble_eq_true rfl) dX2_differs_8 ⟨(Nat.le_of_ble_eq_true rfl), (Nat.le_of_ble_eq_true rfl)⟩ (fun E ce q9 H locs hE hG h1 h2 h3 => thx E ce q9 _ _ _ _ _ _ _ hG (⟨hE.1, Or.inr hE.2⟩) h1 h2 h3 (Nat.le_of_ble_eq_true rfl) (Nat.le_of_ble_eq_true rfl)) (fun r9 f9 H locs hp hG => ?_)
  obtain ⟨rfl, d, hd2, rfl, hd3, rfl⟩ := hp
  have hTd := hXT d (by omega)
  have hTdn := hTd.2.2.2.1
  have hSd := hS d (by omega)
  have htd := tc_v hd2
  refine lv_astore (lv' := [(4, .ref (ad (tc d))), (3, .ref (ad (tc j))), (0, .ref (ad 0)), (1, .int (nI j)), (2, .int (nI d))]) S.1 S.2.1 dX2_differs_11 hl (by decide) rfl (fun ls hl => ?_)
  refine lv_aload_n S.1 S.2.1 dX2_differs_13 rfl (lv_at hl 1 rfl) ?_
  refine o_get S hG i_X1 hTj.lt0 hTj.1 rfl 2 (by decide) kf_46 rfl dX2_differs_14 ?_
  refine lv_aload S.1 S.2.1 dX2_differs_17 (lv_at hl 0 rfl) ?_
  refine o_get S hG i_X1 hTd.lt0 hTd.1 rfl 2 (by decide) kf_46 rfl dX2_differs_19 ?_
  refine o_add S (a := cx j) (b := cx d) dX2_differs_22 ?_
  refine lv_aload_n S.1 S.2.1 dX2_differs_23 rfl (lv_at hl 1 rfl) ?_
  refine lv_aload S.1 S.2.1 dX2_differs_24 (lv_at hl 0 rfl) ?_
  refine lv_iconst (v := (nI 0)) S.1 S.2.1 dX2_differs_26 (by decide) ?_
  refine o_cVi S (rest := [.int (nI ((cx j) + (cx d)))]) (c_X1_countShared l G 84 ad s0 f (tc j) (cx j) (kx j) (vx j) (tc d) (cx d) (kx d) (vx d) false hTj hTd hSj) (cwV 2 S.2.2.2.2 gX2_differs_X1_countShared rfl rfl rfl (by decide +kernel) ⟨(Nat.le_of_ble_eq_true rfl), (Nat.le_of_ble_eq_true rfl)⟩) hG hTj.lt0 hTj.1 rfl rfl hl.1 rfl (Nat.le_of_ble_eq_true rfl) dX2_differs_27 ⟨(Nat.le_of_ble_eq_true rfl), (Nat.le_of_ble_eq_true rfl)⟩ (fun r9 f9 H locs hp hG => ?_)
  obtain ⟨rfl, rfl⟩ := hp
  refine lv_isub S.1 S.2.1 dX2_differs_30 ?_
  refine lv_aload_n S.1 S.2.1 dX2_differs_31 rfl (lv_at hl 1 rfl) ?_
  refine lv_aload S.1 S.2.1 dX2_differs_32 (lv_at hl 0 rfl) ?_
  refine lv_iconst (v := (nI 1)) S.1 S.2.1 dX2_differs_34 (by decide) ?_
  refine o_cVi S (rest := [.int ((nI ((cx j) + (cx d))) - (nI (cnt (cx j) (sh (cx d) (kx d) (vx d) false (kx j) (vx j)))))]) (c_X1_countShared l G 84 ad s0 f (tc j) (cx j) (kx j) (vx j) (tc d) (cx d) (kx d) (vx d) true hTj hTd hSj) (cwV 2 S.2.2.2.2 gX2_differs_X1_countShared rfl rfl rfl (by decide +kernel) ⟨(Nat.le_of_ble_eq_true rfl), (Nat.le_of_ble_eq_true rfl)⟩) hG hTj.lt0 hTj.1 rfl rfl hl.1 rfl (Nat.le_of_ble_eq_true rfl) dX2_differs_35 ⟨(Nat.le_of_ble_eq_true rfl), (Nat.le_of_ble_eq_true rfl)⟩ (fun r9 f9 H locs hp hG => ?_)
  obtain ⟨rfl, rfl⟩ := hp
  refine lv_isub S.1 S.2.1 dX2_differs_38 ?_
  exact ret _ _ _ _ _ _ _ _ hG ⟨rfl, j, d, hj2, hd2, rfl, rfl, hj3, hd3, rfl⟩ rfl (Nat.le_of_ble_eq_true rfl) (Nat.le_of_ble_eq_true rfl) dX2_differs_39

set_option maxHeartbeats 4000000 in
set_option maxRecDepth 100000 in
theorem c_X2_firstDifference (l : Launch) (hst : l.stackTraces = false) (G : Gx) (ad : Nat → Nat) (s0 : Nat) (f : Nat → va_E) (th : Nat → Bool) (cx : Nat → Nat) (kx vx : Nat → Nat → Int32) (px : Nat → Int) (dx : Nat → Bool) (v o : Int32) (hX : RX G ad f th cx kx vx px dx) (hS : ∀ j, j < 21 → Srt (cx j) (kx j))  : xI l yX2_firstDifference wsX2_firstDifference 7 131 3 18 [.ref (ad 0), .int v, .int o] G 84 ad s0 f (fun E => (E = xIO ∧ (isv th v = false ∨ isv th o = false)) ∨ (E = xNS ∧ ∃ j d, j ≤ 12 ∧ d ≤ 12 ∧ v = nI j ∧ o = nI d ∧ th j = true ∧ th d = true ∧ cx j = cx d ∧ ∀ z, z < cx j → kx j z = kx d z ∧ vx j z = vx d z)) (fun r f' => f = f' ∧ ∃ j d, j ≤ 12 ∧ d ≤ 12 ∧ v = nI j ∧ o = nI d ∧ th j = true ∧ th d = true ∧ ∃ i, i ≤ cx j ∧ i ≤ cx d ∧ (∀ z, z < i → kx j z = kx d z ∧ vx j z = vx d z) ∧ ((i = cx j ∧ i < cx d ∧ r = kx d i) ∨ (i < cx j ∧ i = cx d ∧ r = kx j i) ∨ (i < cx j ∧ i < cx d ∧ ¬ (kx j i = kx d i ∧ vx j i = vx d i) ∧ r = (if kx d i < kx j i then kx d i else kx j i)))) := by
  refine ov_xI (cc := cX2_firstDifference) (maxL := 6) (ty := .int) hst (by decide) rfl (Nat.le_of_ble_eq_true rfl) ?_
  intro p e s m below meth c av Q S ret thx tht hG ls hl
  have S : CallFix p m c cX2_firstDifference 6 s av wsX2_firstDifference RX2 := S
  have hl : lv_has ls 6 [(0, .ref (ad 0)), (1, .int v), (2, .int o)] := hl
  have i_X1 : ∀ w ∈ u_ws RX1 TX1 3, w ∈ wsX2_firstDifference := by decide +kernel
  have kf_46 := S.2.2.2.2 (.fieldLink RX2 46 "OrderedVersions$Table" "count" "I") (by decide +kernel)
  have kf_122 := S.2.2.2.2 (.fieldLink RX2 122 "OrderedVersions$Table" "keys" "[I") (by decide +kernel)
  obtain ⟨hX0, ⟨g4, hX4, hg4⟩, ⟨g5, hX5, hg5⟩, ⟨g42, hX42, hg42⟩, ⟨g43, hX43, hg43⟩, hXT, hXC⟩ := id hX
  have hT0 : TB G 84 ad f 1 (cx 0) (kx 0) (vx 0) := hXT 0 (by decide)
  have hT0n := hT0.2.2.2.1
  have hS0 := hS 0 (by decide)
  refine lv_aload_n S.1 S.2.1 dX2_firstDifference_0 rfl (lv_at hl 0 rfl) ?_
  refine lv_iload_n S.1 S.2.1 dX2_firstDifference_1 rfl (lv_at hl 1 rfl) ?_
  refine o_xVr S (rest := []) (c_X2_mapOf l hst G ad s0 f th cx kx vx px dx v hX hS ) (cwV 1 S.2.2.2.2 gX2_firstDifference_X2_mapOf rfl rfl rfl (by decide +kernel) ⟨(Nat.le_of_ble_eq_true rfl), (Nat.le_of_ble_eq_true rfl)⟩) hG (by decide) hX0 rfl rfl hl.1 rfl (Nat.le_of_ble_eq_true rfl) dX2_firstDifference_2 ⟨(Nat.le_of_ble_eq_true rfl), (Nat.le_of_ble_eq_true rfl)⟩ (fun E ce q9 H locs hE hG h1 h2 h3 => thx E ce q9 _ _ _ _ _ _ _ hG (Or.inl ⟨hE.1, Or.inl hE.2⟩) h1 h2 h3 (Nat.le_of_ble_eq_true rfl) (Nat.le_of_ble_eq_true rfl)) (fun r9 f9 H locs hp hG => ?_)
  obtain ⟨rfl, j, hj2, rfl, hj3, rfl⟩ := hp
  have hTj := hXT j (by omega)
  have hTjn := hTj.2.2.2.1
  have hSj := hS j (by omega)
  have htj := tc_v hj2
  refine lv_astore_n (lv' := [(3, .ref (ad (tc j))), (0, .ref (ad 0)), (1, .int (nI j)), (2, .int o)]) S.1 S.2.1 dX2_firstDifference_5 rfl hl (by decide) rfl (fun ls hl => ?_)
  refine lv_aload_n S.1 S.2.1 dX2_firstDifference_6 rfl (lv_at hl 1 rfl) ?_
  refine lv_iload_n S.1 S.2.1 dX2_firstDifference_7 rfl (lv_at hl 3 rfl) ?_
  refine o_xVr S (rest := []) (c_X2_mapOf l hst G ad s0 f th cx kx vx px dx o hX hS ) (cwV 1 S.2.2.2.2 gX2_firstDifference_X2_mapOf rfl rfl rfl (by decide +kernel) ⟨(Nat.le_of_ble_eq_true rfl), (Nat.le_of_ble_eq_true rfl)⟩) hG (by decide) hX0 rfl rfl hl.1 rfl (Nat.le_of_ble_eq_true rfl) dX2_firstDifference_8 ⟨(Nat.le_of_ble_eq_true rfl), (Nat.le_of_ble_eq_true rfl)⟩ (fun E ce q9 H locs hE hG h1 h2 h3 => thx E ce q9 _ _ _ _ _ _ _ hG (Or.inl ⟨hE.1, Or.inr hE.2⟩) h1 h2 h3 (Nat.le_of_ble_eq_true rfl) (Nat.le_of_ble_eq_true rfl)) (fun r9 f9 H locs hp hG => ?_)
  obtain ⟨rfl, d, hd2, rfl, hd3, rfl⟩ := hp
  have hTd := hXT d (by omega)
  have hTdn := hTd.2.2.2.1
  have hSd := hS d (by omega)
  have htd := tc_v hd2
  refine lv_astore (lv' := [(4, .ref (ad (tc d))), (3, .ref (ad (tc j))), (0, .ref (ad 0)), (1, .int (nI j)), (2, .int (nI d))]) S.1 S.2.1 dX2_firstDifference_11 hl (by decide) rfl (fun ls hl => ?_)
  refine lv_aload_n S.1 S.2.1 dX2_firstDifference_13 rfl (lv_at hl 1 rfl) ?_
  refine lv_aload S.1 S.2.1 dX2_firstDifference_14 (lv_at hl 0 rfl) ?_
  refine o_cVi S (rest := []) (c_X1_countAlikeAtStart l G 84 ad s0 f (tc j) (cx j) (kx j) (vx j) (tc d) (cx d) (kx d) (vx d) hTj hTd) (cwV 1 S.2.2.2.2 gX2_firstDifference_X1_countAlikeAtStart rfl rfl rfl (by decide +kernel) ⟨(Nat.le_of_ble_eq_true rfl), (Nat.le_of_ble_eq_true rfl)⟩) hG hTj.lt0 hTj.1 rfl rfl hl.1 rfl (Nat.le_of_ble_eq_true rfl) dX2_firstDifference_16 ⟨(Nat.le_of_ble_eq_true rfl), (Nat.le_of_ble_eq_true rfl)⟩ (fun r9 f9 H locs hp hG => ?_)
  obtain ⟨rfl, i, rfl, hi1, hi2, hi3, hi4⟩ := hp
  refine lv_istore (lv' := [(5, .int (nI i)), (4, .ref (ad (tc d))), (3, .ref (ad (tc j))), (0, .ref (ad 0)), (1, .int (nI j)), (2, .int (nI d))]) S.1 S.2.1 dX2_firstDifference_19 hl (by decide) rfl (fun ls hl => ?_)
  refine lv_iload S.1 S.2.1 dX2_firstDifference_21 (lv_at hl 0 rfl) ?_
  refine lv_aload_n S.1 S.2.1 dX2_firstDifference_23 rfl (lv_at hl 2 rfl) ?_
  refine o_get S hG i_X1 hTj.lt0 hTj.1 rfl 2 (by decide) kf_46 rfl dX2_firstDifference_24 ?_
  refine n_lt S (a := i) (b := cx j) (tgt := 38) dX2_firstDifference_27 (by decide) (by omega) (by omega) (fun c_27 => ?_) (fun c_27 => ?_)
  · skip
    refine lv_iload S.1 S.2.1 dX2_firstDifference_38 (lv_at hl 0 rfl) ?_
    refine lv_aload S.1 S.2.1 dX2_firstDifference_40 (lv_at hl 1 rfl) ?_
    refine o_get S hG i_X1 hTd.lt0 hTd.1 rfl 2 (by decide) kf_46 rfl dX2_firstDifference_42 ?_
    refine n_lt S (a := i) (b := cx d) (tgt := 55) dX2_firstDifference_45 (by decide) (by omega) (by omega) (fun c_45 => ?_) (fun c_45 => ?_)
    · skip
      refine lv_aload_n S.1 S.2.1 dX2_firstDifference_55 rfl (lv_at hl 2 rfl) ?_
      refine o_get S hG i_X1 hTj.lt0 hTj.1 rfl 0 (by decide) kf_122 rfl dX2_firstDifference_56 ?_
      refine lv_iload S.1 S.2.1 dX2_firstDifference_59 (lv_at hl 0 rfl) ?_
      refine o_iald S hG (j := i) hTj.lt1 hTj.2.1 (by omega) dX2_firstDifference_61 (kk := ?_)
      refine lv_aload S.1 S.2.1 dX2_firstDifference_62 (lv_at hl 1 rfl) ?_
      refine o_get S hG i_X1 hTd.lt0 hTd.1 rfl 0 (by decide) kf_122 rfl dX2_firstDifference_64 ?_
      refine lv_iload S.1 S.2.1 dX2_firstDifference_67 (lv_at hl 0 rfl) ?_
      refine o_iald S hG (j := i) hTd.lt1 hTd.2.1 (by omega) dX2_firstDifference_69 (kk := ?_)
      refine va_mmin S.1 S.2.1 (S.2.2.1.trans hl.1.symm) S.2.2.2.1 (S.2.2.2.2 (.methodLink RX2 125 Lib.Math.min.name) (by decide +kernel)) (S.2.2.2.2 (.static Lib.Math.min.name) (by decide +kernel)) (S.2.2.2.2 (.initialized "java/lang/Math") (by decide +kernel)) (S.2.2.2.2 (.code Lib.Math.min.name Lib.Math.min.code 2 (some .int)) (by decide +kernel)) (Nat.le_of_ble_eq_true rfl) (Nat.le_of_ble_eq_true rfl) (Nat.le_of_ble_eq_true rfl) (Nat.le_of_ble_eq_true rfl) dX2_firstDifference_70 ?_
      exact ret _ _ _ _ _ _ _ _ hG ⟨rfl, j, d, hj2, hd2, rfl, rfl, hj3, hd3, i, hi1, hi2, hi3, Or.inr (Or.inr ⟨c_27, c_45, hi4 c_27 c_45, rfl⟩)⟩ rfl (Nat.le_of_ble_eq_true rfl) (Nat.le_of_ble_eq_true rfl) dX2_firstDifference_73
    · skip
      refine lv_aload_n S.1 S.2.1 dX2_firstDifference_48 rfl (lv_at hl 2 rfl) ?_
      refine lv_iload S.1 S.2.1 dX2_firstDifference_49 (lv_at hl 0 rfl) ?_
      refine o_xSi S (rest := []) (c_X2_keyAt l hst G ad s0 f (tc j) (cx j) (kx j) (vx j) (nI i) hTj) (va_cwS 2 S.2.2.2.2 gX2_firstDifference_X2_keyAt rfl rfl rfl (by decide +kernel) ⟨(Nat.le_of_ble_eq_true rfl), (Nat.le_of_ble_eq_true rfl)⟩) hG rfl hl.1 rfl (Nat.le_of_ble_eq_true rfl) dX2_firstDifference_51 ⟨(Nat.le_of_ble_eq_true rfl), (Nat.le_of_ble_eq_true rfl)⟩ (fun E ce q9 H locs hE hG h1 h2 h3 => absurd (by have h9 := hE.2; rw [wi_nI (by omega)] at h9; have := of_decide_eq_false h9; omega) (Nat.lt_irrefl 0)) (fun r9 f9 H locs hp hG => ?_)
      obtain ⟨rfl, i2, hi9, ei, rfl⟩ := hp
      obtain rfl : i = i2 := (nI_eq (by omega) (by omega)).mp ei
      exact ret _ _ _ _ _ _ _ _ hG ⟨rfl, j, d, hj2, hd2, rfl, rfl, hj3, hd3, i, hi1, hi2, hi3, Or.inr (Or.inl ⟨by omega, by omega, rfl⟩)⟩ rfl (Nat.le_of_ble_eq_true rfl) (Nat.le_of_ble_eq_true rfl) dX2_firstDifference_54
  · skip
    refine lv_aload S.1 S.2.1 dX2_firstDifference_30 (lv_at hl 1 rfl) ?_
    refine lv_iload S.1 S.2.1 dX2_firstDifference_32 (lv_at hl 0 rfl) ?_
    refine o_xSi S (rest := []) (c_X2_keyAt l hst G ad s0 f (tc d) (cx d) (kx d) (vx d) (nI i) hTd) (va_cwS 2 S.2.2.2.2 gX2_firstDifference_X2_keyAt rfl rfl rfl (by decide +kernel) ⟨(Nat.le_of_ble_eq_true rfl), (Nat.le_of_ble_eq_true rfl)⟩) hG rfl hl.1 rfl (Nat.le_of_ble_eq_true rfl) dX2_firstDifference_34 ⟨(Nat.le_of_ble_eq_true rfl), (Nat.le_of_ble_eq_true rfl)⟩ (fun E ce q9 H locs hE hG h1 h2 h3 => thx E ce q9 _ _ _ _ _ _ _ hG (Or.inr ⟨hE.1, j, d, hj2, hd2, rfl, rfl, hj3, hd3, by have h9 := hE.2; rw [wi_nI (by omega)] at h9; have := of_decide_eq_false h9; omega, fun z hz => hi3 z (by omega)⟩) h1 h2 h3 (Nat.le_of_ble_eq_true rfl) (Nat.le_of_ble_eq_true rfl)) (fun r9 f9 H locs hp hG => ?_)
    obtain ⟨rfl, i2, hi9, ei, rfl⟩ := hp
    obtain rfl : i = i2 := (nI_eq (by omega) (by omega)).mp ei
    exact ret _ _ _ _ _ _ _ _ hG ⟨rfl, j, d, hj2, hd2, rfl, rfl, hj3, hd3, i, hi1, hi2, hi3, Or.inl ⟨by omega, by omega, rfl⟩⟩ rfl (Nat.le_of_ble_eq_true rfl) (Nat.le_of_ble_eq_true rfl) dX2_firstDifference_37

set_option maxHeartbeats 4000000 in
set_option maxRecDepth 100000 in
theorem c_X2_open (l : Launch) (hst : l.stackTraces = false) (G : Gx) (ad : Nat → Nat) (s0 : Nat) (f : Nat → va_E) (th : Nat → Bool) (cx : Nat → Nat) (kx vx : Nat → Nat → Int32) (px : Nat → Int) (dx : Nat → Bool) (v key : Int32) (dw : Bool) (hX : RX G ad f th cx kx vx px dx) (hS : ∀ j, j < 21 → Srt (cx j) (kx j))  : xI l yX2_open wsX2_open 7 131 2 12 [.ref (ad 0), .int v, .int key, .int (bI dw)] G 84 ad s0 f (fun E => (E = xIO ∧ isv th v = false) ∨ (E = xUO ∧ isv th v = true ∧ ∀ z, z < 8 → th (13 + z) = true)) (fun r f' => OnX f f' ∧ ∃ j, j ≤ 12 ∧ v = nI j ∧ th j = true ∧ ∃ i, i < 8 ∧ th (13 + i) = false ∧ (∀ z, z < i → th (13 + z) = true) ∧ r = nI i ∧ ∃ k3 v3, RX G ad f' (va_up th (13 + i) true) (va_up cx (13 + i) (cx j)) (va_up kx (13 + i) k3) (va_up vx (13 + i) v3) (va_up px i (neaZ (cx j) k3 key (!dw))) (va_up dx i dw) ∧ ∀ z, z < cx j → k3 z = kx j z ∧ v3 z = vx j z) := by
  refine ov_xI (cc := cX2_open) (maxL := 6) (ty := .int) hst (by decide) rfl (Nat.le_of_ble_eq_true rfl) ?_
  intro p e s m below meth c av Q S ret thx tht hG ls hl
  have S : CallFix p m c cX2_open 6 s av wsX2_open RX2 := S
  have hl : lv_has ls 6 [(0, .ref (ad 0)), (1, .int v), (2, .int key), (3, .int (bI dw))] := hl
  have i_X2 : ∀ w ∈ u_ws RX2 TX2 5, w ∈ wsX2_open := by decide +kernel
  have kf_26 := S.2.2.2.2 (.fieldLink RX2 26 "OrderedVersions" "cursors" "[LOrderedVersions$Cursor;") (by decide +kernel)
  have kf_30 := S.2.2.2.2 (.fieldLink RX2 30 "OrderedVersions" "cursorTaken" "[Z") (by decide +kernel)
  obtain ⟨hX0, ⟨g4, hX4, hg4⟩, ⟨g5, hX5, hg5⟩, ⟨g42, hX42, hg42⟩, ⟨g43, hX43, hg43⟩, hXT, hXC⟩ := id hX
  have hT0 : TB G 84 ad f 1 (cx 0) (kx 0) (vx 0) := hXT 0 (by decide)
  have hT0n := hT0.2.2.2.1
  have hS0 := hS 0 (by decide)
  refine lv_aload_n S.1 S.2.1 dX2_open_0 rfl (lv_at hl 0 rfl) ?_
  refine lv_iload_n S.1 S.2.1 dX2_open_1 rfl (lv_at hl 1 rfl) ?_
  refine o_xVr S (rest := []) (c_X2_mapOf l hst G ad s0 f th cx kx vx px dx v hX hS ) (cwV 1 S.2.2.2.2 gX2_open_X2_mapOf rfl rfl rfl (by decide +kernel) ⟨(Nat.le_of_ble_eq_true rfl), (Nat.le_of_ble_eq_true rfl)⟩) hG (by decide) hX0 rfl rfl hl.1 rfl (Nat.le_of_ble_eq_true rfl) dX2_open_2 ⟨(Nat.le_of_ble_eq_true rfl), (Nat.le_of_ble_eq_true rfl)⟩ (fun E ce q9 H locs hE hG h1 h2 h3 => thx E ce q9 _ _ _ _ _ _ _ hG (Or.inl hE) h1 h2 h3 (Nat.le_of_ble_eq_true rfl) (Nat.le_of_ble_eq_true rfl)) (fun r9 f9 H locs hp hG => ?_)
  obtain ⟨rfl, j, hj2, rfl, hj3, rfl⟩ := hp
  have hTj := hXT j (by omega)
  have hTjn := hTj.2.2.2.1
  have hSj := hS j (by omega)
  have htj := tc_v hj2
  refine lv_astore (lv' := [(4, .ref (ad (tc j))), (0, .ref (ad 0)), (1, .int (nI j)), (2, .int key), (3, .int (bI dw))]) S.1 S.2.1 dX2_open_5 hl (by decide) rfl (fun ls hl => ?_)
  refine lv_aload_n S.1 S.2.1 dX2_open_7 rfl (lv_at hl 1 rfl) ?_
  refine o_get S hG i_X2 (by decide) hX0 rfl 4 (by decide) kf_30 rfl dX2_open_8 ?_
  refine lv_iconst (v := (nI 0)) S.1 S.2.1 dX2_open_11 (by decide) ?_
  refine o_cSi S (rest := []) (c_X2_leastFree l G ad s0 f 43 8 g43 (fun q => th (13 + q)) 0 (by decide) hX43 (by decide) hg43 (by decide)) (va_cwS 2 S.2.2.2.2 gX2_open_X2_leastFree rfl rfl rfl (by decide +kernel) ⟨(Nat.le_of_ble_eq_true rfl), (Nat.le_of_ble_eq_true rfl)⟩) hG rfl hl.1 rfl (Nat.le_of_ble_eq_true rfl) dX2_open_12 ⟨(Nat.le_of_ble_eq_true rfl), (Nat.le_of_ble_eq_true rfl)⟩ (fun r9 f9 H locs hp hG => ?_)
  obtain ⟨rfl, i, rfl, hi1, hi2, hi3, hi4⟩ := hp
  refine lv_istore (lv' := [(5, .int (nI i)), (4, .ref (ad (tc j))), (0, .ref (ad 0)), (1, .int (nI j)), (2, .int key), (3, .int (bI dw))]) S.1 S.2.1 dX2_open_15 hl (by decide) rfl (fun ls hl => ?_)
  refine lv_iload S.1 S.2.1 dX2_open_17 (lv_at hl 0 rfl) ?_
  refine lv_aload_n S.1 S.2.1 dX2_open_19 rfl (lv_at hl 2 rfl) ?_
  refine o_get S hG i_X2 (by decide) hX0 rfl 4 (by decide) kf_30 rfl dX2_open_20 ?_
  refine o_alen S hG 1 (by decide) hX43 rfl dX2_open_23 ?_
  refine n_ne S (a := i) (b := 8) (tgt := 35) dX2_open_24 (by decide) (by omega) (by omega) (fun c_24 => ?_) (fun c_24 => ?_)
  · skip
    refine lv_aload_n S.1 S.2.1 dX2_open_35 rfl (lv_at hl 2 rfl) ?_
    refine o_get S hG i_X2 (by decide) hX0 rfl 3 (by decide) kf_26 rfl dX2_open_36 ?_
    refine lv_iload S.1 S.2.1 dX2_open_39 (lv_at hl 0 rfl) ?_
    refine o_Uald S hG (j := i) (by decide) hX42 (by omega) (hg42 i (by omega)) dX2_open_41 (kk := ?_)
    have hCi := hXC i (by omega)
    have hTi : TB G 84 ad f (44 + 4 * i + 1) (cx (13 + i)) (kx (13 + i)) (vx (13 + i)) := by have h9 := hXT (13 + i) (by omega); rw [tc_c] at h9; rw [show 44 + 4 * i + 1 = 45 + 4 * i by omega]; exact h9
    refine lv_aload S.1 S.2.1 dX2_open_42 (lv_at hl 1 rfl) ?_
    refine lv_iload_n S.1 S.2.1 dX2_open_44 rfl (lv_at hl 4 rfl) ?_
    refine lv_iload_n S.1 S.2.1 dX2_open_45 rfl (lv_at hl 5 rfl) ?_
    refine o_cVv S (rest := []) (c_X0_start l G 84 ad s0 f (44 + 4 * i) (cx (13 + i)) (kx (13 + i)) (vx (13 + i)) (dx i) (px i) (tc j) (cx j) (kx j) (vx j) key dw hCi hTi hTj (by omega)) (cwV 3 S.2.2.2.2 gX2_open_X0_start rfl rfl rfl (by decide +kernel) ⟨(Nat.le_of_ble_eq_true rfl), (Nat.le_of_ble_eq_true rfl)⟩) hG (by omega) hCi rfl rfl hl.1 rfl (Nat.le_of_ble_eq_true rfl) dX2_open_46 ⟨(Nat.le_of_ble_eq_true rfl), (Nat.le_of_ble_eq_true rfl)⟩ (fun f9 H locs hp hG => ?_)
    obtain ⟨hO9, k3, v3, hT9, hC9, hk9⟩ := hp
    have hX := hX.setC (q := i) (by omega) (by rw [show 45 + 4 * i = 44 + 4 * i + 1 by omega]; exact hT9) hC9 hO9
    have hOX := hO9.x (by omega)
    obtain ⟨hX0, ⟨g4, hX4, hg4⟩, ⟨g5, hX5, hg5⟩, ⟨g42, hX42, hg42⟩, ⟨g43, hX43, hg43⟩, hXT, hXC⟩ := id hX
    refine lv_aload_n S.1 S.2.1 dX2_open_49 rfl (lv_at hl 2 rfl) ?_
    refine o_get S hG i_X2 (by decide) hX0 rfl 4 (by decide) kf_30 rfl dX2_open_50 ?_
    refine lv_iload S.1 S.2.1 dX2_open_53 (lv_at hl 0 rfl) ?_
    refine lv_iconst (v := (nI 1)) S.1 S.2.1 dX2_open_55 (by decide) ?_
    refine o_zast S hG (j := i) (by decide) hX43 (by omega) rfl dX2_open_56 (kk := fun H locs hG => ?_)
    obtain ⟨f_1, ef_1, hG⟩ := ov_name hG
    have hX := hX.set43 (b := true) hX43 (by omega) ef_1
    have hOX := hOX.up ef_1 (by decide)
    obtain ⟨hX0, ⟨g4, hX4, hg4⟩, ⟨g5, hX5, hg5⟩, ⟨g42, hX42, hg42⟩, ⟨g43, hX43, hg43⟩, hXT, hXC⟩ := id hX
    refine lv_iload S.1 S.2.1 dX2_open_57 (lv_at hl 0 rfl) ?_
    exact ret _ _ _ _ _ _ _ _ hG ⟨hOX, j, hj2, rfl, hj3, i, by omega, hi4 (by omega), fun z hz => hi3 z (Nat.zero_le _) hz, rfl, k3, v3, hX, hk9⟩ rfl (Nat.le_of_ble_eq_true rfl) (Nat.le_of_ble_eq_true rfl) dX2_open_59
  · skip
    exact tht "java/lang/UnsupportedOperationException" ["java/lang/RuntimeException", "java/lang/Exception"] 50 52 _ _ _ _ _ _ _ hG (Or.inr ⟨rfl, by rw [isv_nI hj2]; exact hj3, fun z hz => hi3 z (Nat.zero_le _) (by omega)⟩) (by decide) (by decide) (S.2.2.2.2 (.classLink RX2 50 "java/lang/UnsupportedOperationException") (by decide +kernel)) (S.2.2.2.2 (.initialized "java/lang/UnsupportedOperationException") (by decide +kernel)) (vx_hat (fun w h => S.2.2.2.2 w ((by decide +kernel : ∀ w ∈ (vx_at0 RX2 52 "java/lang/UnsupportedOperationException" ["java/lang/RuntimeException", "java/lang/Exception"]).filter goodWord, w ∈ wsX2_open) w h)) (by decide +kernel : ∀ w ∈ (vx_at0 RX2 52 "java/lang/UnsupportedOperationException" ["java/lang/RuntimeException", "java/lang/Exception"]).filter (fun w => !goodWord w), w ∈ ov_NG) hG.2.2.2.2.1.2.2.use) (by decide +kernel) (hl.1.trans S.2.2.1.symm) dX2_open_27 dX2_open_30 dX2_open_31 dX2_open_34 (Nat.le_of_ble_eq_true rfl) (Nat.le_of_ble_eq_true rfl) (Nat.le_of_ble_eq_true rfl) (Nat.le_of_ble_eq_true rfl) (Nat.le_of_ble_eq_true rfl) (Nat.le_of_ble_eq_true rfl)

set_option maxHeartbeats 4000000 in
set_option maxRecDepth 100000 in
theorem c_X2_next (l : Launch) (hst : l.stackTraces = false) (G : Gx) (ad : Nat → Nat) (s0 : Nat) (f : Nat → va_E) (th : Nat → Bool) (cx : Nat → Nat) (kx vx : Nat → Nat → Int32) (px : Nat → Int) (dx : Nat → Bool) (v : Int32) (hX : RX G ad f th cx kx vx px dx) (hS : ∀ j, j < 21 → Srt (cx j) (kx j))  : xI l yX2_next wsX2_next 7 131 2 12 [.ref (ad 0), .int v] G 84 ad s0 f (fun E => (E = xIO ∧ isc th v = false) ∨ (E = xNS ∧ ∃ q, q < 8 ∧ v = nI q ∧ th (13 + q) = true ∧ wi (cx (13 + q)) (zI (px q)) = false)) (fun r f' => OnX f f' ∧ ∃ q, q < 8 ∧ v = nI q ∧ th (13 + q) = true ∧ ∃ i, i < cx (13 + q) ∧ zI (px q) = nI i ∧ r = kx (13 + q) i ∧ RX G ad f' th cx kx vx (va_up px q (stp (dx q) (px q) 1)) dx) := by
  refine ov_xI (cc := cX2_next) (maxL := 4) (ty := .int) hst (by decide) rfl (Nat.le_of_ble_eq_true rfl) ?_
  intro p e s m below meth c av Q S ret thx tht hG ls hl
  have S : CallFix p m c cX2_next 4 s av wsX2_next RX2 := S
  have hl : lv_has ls 4 [(0, .ref (ad 0)), (1, .int v)] := hl
  have i_X0 : ∀ w ∈ u_ws RX0 TX0 3, w ∈ wsX2_next := by decide +kernel
  have kf_136 := S.2.2.2.2 (.fieldLink RX2 136 "OrderedVersions$Cursor" "map" "LOrderedVersions$Table;") (by decide +kernel)
  have kf_139 := S.2.2.2.2 (.fieldLink RX2 139 "OrderedVersions$Cursor" "at" "I") (by decide +kernel)
  obtain ⟨hX0, ⟨g4, hX4, hg4⟩, ⟨g5, hX5, hg5⟩, ⟨g42, hX42, hg42⟩, ⟨g43, hX43, hg43⟩, hXT, hXC⟩ := id hX
  have hT0 : TB G 84 ad f 1 (cx 0) (kx 0) (vx 0) := hXT 0 (by decide)
  have hT0n := hT0.2.2.2.1
  have hS0 := hS 0 (by decide)
  refine lv_aload_n S.1 S.2.1 dX2_next_0 rfl (lv_at hl 0 rfl) ?_
  refine lv_iload_n S.1 S.2.1 dX2_next_1 rfl (lv_at hl 1 rfl) ?_
  refine o_xVr S (rest := []) (c_X2_cursorOf l hst G ad s0 f th cx kx vx px dx v hX hS ) (cwV 1 S.2.2.2.2 gX2_next_X2_cursorOf rfl rfl rfl (by decide +kernel) ⟨(Nat.le_of_ble_eq_true rfl), (Nat.le_of_ble_eq_true rfl)⟩) hG (by decide) hX0 rfl rfl hl.1 rfl (Nat.le_of_ble_eq_true rfl) dX2_next_2 ⟨(Nat.le_of_ble_eq_true rfl), (Nat.le_of_ble_eq_true rfl)⟩ (fun E ce q9 H locs hE hG h1 h2 h3 => thx E ce q9 _ _ _ _ _ _ _ hG (Or.inl hE) h1 h2 h3 (Nat.le_of_ble_eq_true rfl) (Nat.le_of_ble_eq_true rfl)) (fun r9 f9 H locs hp hG => ?_)
  obtain ⟨rfl, q, hq1, rfl, hq2, rfl⟩ := hp
  have hCq := hXC q hq1
  have hTq : TB G 84 ad f (44 + 4 * q + 1) (cx (13 + q)) (kx (13 + q)) (vx (13 + q)) := by have h9 := hXT (13 + q) (by omega); rw [tc_c] at h9; rw [show 44 + 4 * q + 1 = 45 + 4 * q by omega]; exact h9
  have hTqn := hTq.2.2.2.1
  refine lv_astore_n (lv' := [(2, .ref (ad (44 + 4 * q))), (0, .ref (ad 0)), (1, .int (nI q))]) S.1 S.2.1 dX2_next_5 rfl hl (by decide) rfl (fun ls hl => ?_)
  refine lv_aload_n S.1 S.2.1 dX2_next_6 rfl (lv_at hl 0 rfl) ?_
  refine o_get S hG i_X0 (by omega) hCq rfl 0 (by decide) kf_136 rfl dX2_next_7 ?_
  refine lv_aload_n S.1 S.2.1 dX2_next_10 rfl (lv_at hl 0 rfl) ?_
  refine o_get S hG i_X0 (by omega) hCq rfl 2 (by decide) kf_139 rfl dX2_next_11 ?_
  refine o_xSi S (rest := []) (c_X2_keyAt l hst G ad s0 f (44 + 4 * q + 1) (cx (13 + q)) (kx (13 + q)) (vx (13 + q)) (zI (px q)) hTq) (va_cwS 2 S.2.2.2.2 gX2_next_X2_keyAt rfl rfl rfl (by decide +kernel) ⟨(Nat.le_of_ble_eq_true rfl), (Nat.le_of_ble_eq_true rfl)⟩) hG rfl hl.1 rfl (Nat.le_of_ble_eq_true rfl) dX2_next_14 ⟨(Nat.le_of_ble_eq_true rfl), (Nat.le_of_ble_eq_true rfl)⟩ (fun E ce q9 H locs hE hG h1 h2 h3 => thx E ce q9 _ _ _ _ _ _ _ hG (Or.inr ⟨hE.1, q, hq1, rfl, hq2, hE.2⟩) h1 h2 h3 (Nat.le_of_ble_eq_true rfl) (Nat.le_of_ble_eq_true rfl)) (fun r9 f9 H locs hp hG => ?_)
  obtain ⟨rfl, i, hi, ei, rfl⟩ := hp
  refine lv_istore_n (lv' := [(3, .int ((kx (13 + q)) i)), (2, .ref (ad (44 + 4 * q))), (0, .ref (ad 0)), (1, .int (nI q))]) S.1 S.2.1 dX2_next_17 rfl hl (by decide) rfl (fun ls hl => ?_)
  refine lv_aload_n S.1 S.2.1 dX2_next_18 rfl (lv_at hl 1 rfl) ?_
  refine lv_iconst (v := (nI 1)) S.1 S.2.1 dX2_next_19 (by decide) ?_
  refine o_cVv S (rest := []) (c_X0_goOver l G 84 ad s0 f (44 + 4 * q) (cx (13 + q)) (kx (13 + q)) (vx (13 + q)) (dx q) (px q) (1) hCq hTq) (cwV 1 S.2.2.2.2 gX2_next_X0_goOver rfl rfl rfl (by decide +kernel) ⟨(Nat.le_of_ble_eq_true rfl), (Nat.le_of_ble_eq_true rfl)⟩) hG (by omega) hCq rfl rfl hl.1 rfl (Nat.le_of_ble_eq_true rfl) dX2_next_20 ⟨(Nat.le_of_ble_eq_true rfl), (Nat.le_of_ble_eq_true rfl)⟩ (fun f9 H locs hp hG => ?_)
  obtain ⟨hO9, hC9⟩ := hp
  have hX := hX.setP (q := q) hq1 hC9 hO9
  have hOX : OnX f f9 := fun c hc => hO9 c (by omega)
  refine lv_iload_n S.1 S.2.1 dX2_next_23 rfl (lv_at hl 0 rfl) ?_
  exact ret _ _ _ _ _ _ _ _ hG ⟨hOX, q, hq1, rfl, hq2, i, hi, ei, rfl, hX⟩ rfl (Nat.le_of_ble_eq_true rfl) (Nat.le_of_ble_eq_true rfl) dX2_next_24

set_option maxHeartbeats 4000000 in
set_option maxRecDepth 100000 in
theorem c_X2_skip (l : Launch) (hst : l.stackTraces = false) (G : Gx) (ad : Nat → Nat) (s0 : Nat) (f : Nat → va_E) (th : Nat → Bool) (cx : Nat → Nat) (kx vx : Nat → Nat → Int32) (px : Nat → Int) (dx : Nat → Bool) (v n : Int32) (hX : RX G ad f th cx kx vx px dx) (hS : ∀ j, j < 21 → Srt (cx j) (kx j)) (hC9 : ∀ q, q < 8 → th (13 + q) = true → WCp (dx q) (px q) (cx (13 + q))) : xI l yX2_skip wsX2_skip 7 131 2 12 [.ref (ad 0), .int v, .int n] G 84 ad s0 f (fun E => (E = xIO ∧ isc th v = false) ∨ (E = xIA ∧ isc th v = true ∧ n < 0)) (fun r f' => OnX f f' ∧ ∃ q, q < 8 ∧ v = nI q ∧ th (13 + q) = true ∧ ∃ w, w < 2 ^ 31 ∧ n = nI w ∧ r = nI (min w (lft (dx q) (px q) (cx (13 + q)))) ∧ RX G ad f' th cx kx vx (va_up px q (stp (dx q) (px q) (min w (lft (dx q) (px q) (cx (13 + q)))))) dx) := by
  refine ov_xI (cc := cX2_skip) (maxL := 5) (ty := .int) hst (by decide) rfl (Nat.le_of_ble_eq_true rfl) ?_
  intro p e s m below meth c av Q S ret thx tht hG ls hl
  have S : CallFix p m c cX2_skip 5 s av wsX2_skip RX2 := S
  have hl : lv_has ls 5 [(0, .ref (ad 0)), (1, .int v), (2, .int n)] := hl
  obtain ⟨hX0, ⟨g4, hX4, hg4⟩, ⟨g5, hX5, hg5⟩, ⟨g42, hX42, hg42⟩, ⟨g43, hX43, hg43⟩, hXT, hXC⟩ := id hX
  have hT0 : TB G 84 ad f 1 (cx 0) (kx 0) (vx 0) := hXT 0 (by decide)
  have hT0n := hT0.2.2.2.1
  have hS0 := hS 0 (by decide)
  refine lv_aload_n S.1 S.2.1 dX2_skip_0 rfl (lv_at hl 0 rfl) ?_
  refine lv_iload_n S.1 S.2.1 dX2_skip_1 rfl (lv_at hl 1 rfl) ?_
  refine o_xVr S (rest := []) (c_X2_cursorOf l hst G ad s0 f th cx kx vx px dx v hX hS ) (cwV 1 S.2.2.2.2 gX2_skip_X2_cursorOf rfl rfl rfl (by decide +kernel) ⟨(Nat.le_of_ble_eq_true rfl), (Nat.le_of_ble_eq_true rfl)⟩) hG (by decide) hX0 rfl rfl hl.1 rfl (Nat.le_of_ble_eq_true rfl) dX2_skip_2 ⟨(Nat.le_of_ble_eq_true rfl), (Nat.le_of_ble_eq_true rfl)⟩ (fun E ce q9 H locs hE hG h1 h2 h3 => thx E ce q9 _ _ _ _ _ _ _ hG (Or.inl hE) h1 h2 h3 (Nat.le_of_ble_eq_true rfl) (Nat.le_of_ble_eq_true rfl)) (fun r9 f9 H locs hp hG => ?_)
  obtain ⟨rfl, q, hq1, rfl, hq2, rfl⟩ := hp
  have hCq := hXC q hq1
  have hTq : TB G 84 ad f (44 + 4 * q + 1) (cx (13 + q)) (kx (13 + q)) (vx (13 + q)) := by have h9 := hXT (13 + q) (by omega); rw [tc_c] at h9; rw [show 44 + 4 * q + 1 = 45 + 4 * q by omega]; exact h9
  have hTqn := hTq.2.2.2.1
  refine lv_astore_n (lv' := [(3, .ref (ad (44 + 4 * q))), (0, .ref (ad 0)), (1, .int (nI q)), (2, .int n)]) S.1 S.2.1 dX2_skip_5 rfl hl (by decide) rfl (fun ls hl => ?_)
  refine lv_iload_n S.1 S.2.1 dX2_skip_6 rfl (lv_at hl 3 rfl) ?_
  refine lv_if_ge (tgt := 18) S.1 S.2.1 dX2_skip_7 (by decide) (fun c_7 => ?_) (fun c_7 => ?_)
  · skip
    obtain ⟨w, hw, rfl⟩ := n_ge0 c_7
    refine lv_iload_n S.1 S.2.1 dX2_skip_18 rfl (lv_at hl 3 rfl) ?_
    refine lv_aload_n S.1 S.2.1 dX2_skip_19 rfl (lv_at hl 0 rfl) ?_
    refine o_cVi S (rest := [.int (nI w)]) (c_X0_countLeft l G 84 ad s0 f (44 + 4 * q) (cx (13 + q)) (kx (13 + q)) (vx (13 + q)) (dx q) (px q) hCq hTq (hC9 q hq1 hq2)) (cwV 0 S.2.2.2.2 gX2_skip_X0_countLeft rfl rfl rfl (by decide +kernel) ⟨(Nat.le_of_ble_eq_true rfl), (Nat.le_of_ble_eq_true rfl)⟩) hG (by omega) hCq rfl rfl hl.1 rfl (Nat.le_of_ble_eq_true rfl) dX2_skip_20 ⟨(Nat.le_of_ble_eq_true rfl), (Nat.le_of_ble_eq_true rfl)⟩ (fun r9 f9 H locs hp hG => ?_)
    obtain ⟨rfl, rfl⟩ := hp
    have hlf := lft_le (hC9 q hq1 hq2)
    refine va_mmin S.1 S.2.1 (S.2.2.1.trans hl.1.symm) S.2.2.2.1 (S.2.2.2.2 (.methodLink RX2 125 Lib.Math.min.name) (by decide +kernel)) (S.2.2.2.2 (.static Lib.Math.min.name) (by decide +kernel)) (S.2.2.2.2 (.initialized "java/lang/Math") (by decide +kernel)) (S.2.2.2.2 (.code Lib.Math.min.name Lib.Math.min.code 2 (some .int)) (by decide +kernel)) (Nat.le_of_ble_eq_true rfl) (Nat.le_of_ble_eq_true rfl) (Nat.le_of_ble_eq_true rfl) (Nat.le_of_ble_eq_true rfl) dX2_skip_23 ?_
    refine o_top (nI_min hw (by omega)) ?_
    refine lv_istore (lv' := [(4, .int (nI (min w (lft (dx q) (px q) (cx (13 + q)))))), (3, .ref (ad (44 + 4 * q))), (0, .ref (ad 0)), (1, .int (nI q)), (2, .int (nI w))]) S.1 S.2.1 dX2_skip_26 hl (by decide) rfl (fun ls hl => ?_)
    refine lv_aload_n S.1 S.2.1 dX2_skip_28 rfl (lv_at hl 1 rfl) ?_
    refine lv_iload S.1 S.2.1 dX2_skip_29 (lv_at hl 0 rfl) ?_
    refine o_cVv S (rest := []) (c_X0_goOver l G 84 ad s0 f (44 + 4 * q) (cx (13 + q)) (kx (13 + q)) (vx (13 + q)) (dx q) (px q) (min w (lft (dx q) (px q) (cx (13 + q)))) hCq hTq) (cwV 1 S.2.2.2.2 gX2_skip_X0_goOver rfl rfl rfl (by decide +kernel) ⟨(Nat.le_of_ble_eq_true rfl), (Nat.le_of_ble_eq_true rfl)⟩) hG (by omega) hCq rfl rfl hl.1 rfl (Nat.le_of_ble_eq_true rfl) dX2_skip_31 ⟨(Nat.le_of_ble_eq_true rfl), (Nat.le_of_ble_eq_true rfl)⟩ (fun f9 H locs hp hG => ?_)
    obtain ⟨hO9, hC9⟩ := hp
    have hX := hX.setP (q := q) hq1 hC9 hO9
    have hOX : OnX f f9 := fun c hc => hO9 c (by omega)
    refine lv_iload S.1 S.2.1 dX2_skip_34 (lv_at hl 0 rfl) ?_
    exact ret _ _ _ _ _ _ _ _ hG ⟨hOX, q, hq1, rfl, hq2, w, hw, rfl, rfl, hX⟩ rfl (Nat.le_of_ble_eq_true rfl) (Nat.le_of_ble_eq_true rfl) dX2_skip_36
  · skip
    exact tht "java/lang/IllegalArgumentException" ["java/lang/RuntimeException", "java/lang/Exception"] 64 66 _ _ _ _ _ _ _ hG (Or.inr ⟨rfl, by rw [isc_nI hq1]; exact hq2, i32_of_nle c_7⟩) (by decide) (by decide) (S.2.2.2.2 (.classLink RX2 64 "java/lang/IllegalArgumentException") (by decide +kernel)) (S.2.2.2.2 (.initialized "java/lang/IllegalArgumentException") (by decide +kernel)) (vx_hat (fun w h => S.2.2.2.2 w ((by decide +kernel : ∀ w ∈ (vx_at0 RX2 66 "java/lang/IllegalArgumentException" ["java/lang/RuntimeException", "java/lang/Exception"]).filter goodWord, w ∈ wsX2_skip) w h)) (by decide +kernel : ∀ w ∈ (vx_at0 RX2 66 "java/lang/IllegalArgumentException" ["java/lang/RuntimeException", "java/lang/Exception"]).filter (fun w => !goodWord w), w ∈ ov_NG) hG.2.2.2.2.1.2.2.use) (by decide +kernel) (hl.1.trans S.2.2.1.symm) dX2_skip_10 dX2_skip_13 dX2_skip_14 dX2_skip_17 (Nat.le_of_ble_eq_true rfl) (Nat.le_of_ble_eq_true rfl) (Nat.le_of_ble_eq_true rfl) (Nat.le_of_ble_eq_true rfl) (Nat.le_of_ble_eq_true rfl) (Nat.le_of_ble_eq_true rfl)

set_option maxHeartbeats 4000000 in
set_option maxRecDepth 100000 in
theorem c_X2_peek (l : Launch) (hst : l.stackTraces = false) (G : Gx) (ad : Nat → Nat) (s0 : Nat) (f : Nat → va_E) (th : Nat → Bool) (cx : Nat → Nat) (kx vx : Nat → Nat → Int32) (px : Nat → Int) (dx : Nat → Bool) (v : Int32) (hX : RX G ad f th cx kx vx px dx) (hS : ∀ j, j < 21 → Srt (cx j) (kx j))  : xI l yX2_peek wsX2_peek 7 131 2 12 [.ref (ad 0), .int v] G 84 ad s0 f (fun E => (E = xIO ∧ isc th v = false) ∨ (E = xNS ∧ ∃ q, q < 8 ∧ v = nI q ∧ th (13 + q) = true ∧ wi (cx (13 + q)) (zI (px q)) = false)) (fun r f' => f = f' ∧ ∃ q, q < 8 ∧ v = nI q ∧ th (13 + q) = true ∧ ∃ i, i < cx (13 + q) ∧ zI (px q) = nI i ∧ r = vx (13 + q) i) := by
  refine ov_xI (cc := cX2_peek) (maxL := 3) (ty := .int) hst (by decide) rfl (Nat.le_of_ble_eq_true rfl) ?_
  intro p e s m below meth c av Q S ret thx tht hG ls hl
  have S : CallFix p m c cX2_peek 3 s av wsX2_peek RX2 := S
  have hl : lv_has ls 3 [(0, .ref (ad 0)), (1, .int v)] := hl
  have i_X0 : ∀ w ∈ u_ws RX0 TX0 3, w ∈ wsX2_peek := by decide +kernel
  have i_X1 : ∀ w ∈ u_ws RX1 TX1 3, w ∈ wsX2_peek := by decide +kernel
  have kf_42 := S.2.2.2.2 (.fieldLink RX2 42 "OrderedVersions$Table" "values" "[I") (by decide +kernel)
  have kf_136 := S.2.2.2.2 (.fieldLink RX2 136 "OrderedVersions$Cursor" "map" "LOrderedVersions$Table;") (by decide +kernel)
  have kf_139 := S.2.2.2.2 (.fieldLink RX2 139 "OrderedVersions$Cursor" "at" "I") (by decide +kernel)
  obtain ⟨hX0, ⟨g4, hX4, hg4⟩, ⟨g5, hX5, hg5⟩, ⟨g42, hX42, hg42⟩, ⟨g43, hX43, hg43⟩, hXT, hXC⟩ := id hX
  have hT0 : TB G 84 ad f 1 (cx 0) (kx 0) (vx 0) := hXT 0 (by decide)
  have hT0n := hT0.2.2.2.1
  have hS0 := hS 0 (by decide)
  refine lv_aload_n S.1 S.2.1 dX2_peek_0 rfl (lv_at hl 0 rfl) ?_
  refine lv_iload_n S.1 S.2.1 dX2_peek_1 rfl (lv_at hl 1 rfl) ?_
  refine o_xVr S (rest := []) (c_X2_cursorOf l hst G ad s0 f th cx kx vx px dx v hX hS ) (cwV 1 S.2.2.2.2 gX2_peek_X2_cursorOf rfl rfl rfl (by decide +kernel) ⟨(Nat.le_of_ble_eq_true rfl), (Nat.le_of_ble_eq_true rfl)⟩) hG (by decide) hX0 rfl rfl hl.1 rfl (Nat.le_of_ble_eq_true rfl) dX2_peek_2 ⟨(Nat.le_of_ble_eq_true rfl), (Nat.le_of_ble_eq_true rfl)⟩ (fun E ce q9 H locs hE hG h1 h2 h3 => thx E ce q9 _ _ _ _ _ _ _ hG (Or.inl hE) h1 h2 h3 (Nat.le_of_ble_eq_true rfl) (Nat.le_of_ble_eq_true rfl)) (fun r9 f9 H locs hp hG => ?_)
  obtain ⟨rfl, q, hq1, rfl, hq2, rfl⟩ := hp
  have hCq := hXC q hq1
  have hTq : TB G 84 ad f (44 + 4 * q + 1) (cx (13 + q)) (kx (13 + q)) (vx (13 + q)) := by have h9 := hXT (13 + q) (by omega); rw [tc_c] at h9; rw [show 44 + 4 * q + 1 = 45 + 4 * q by omega]; exact h9
  have hTqn := hTq.2.2.2.1
  refine lv_astore_n (lv' := [(2, .ref (ad (44 + 4 * q))), (0, .ref (ad 0)), (1, .int (nI q))]) S.1 S.2.1 dX2_peek_5 rfl hl (by decide) rfl (fun ls hl => ?_)
  refine lv_aload_n S.1 S.2.1 dX2_peek_6 rfl (lv_at hl 0 rfl) ?_
  refine o_get S hG i_X0 (by omega) hCq rfl 0 (by decide) kf_136 rfl dX2_peek_7 ?_
  refine lv_aload_n S.1 S.2.1 dX2_peek_10 rfl (lv_at hl 0 rfl) ?_
  refine o_get S hG i_X0 (by omega) hCq rfl 2 (by decide) kf_139 rfl dX2_peek_11 ?_
  refine o_cVi S (rest := []) (c_X1_isWithin l G 84 ad s0 f (44 + 4 * q + 1) (cx (13 + q)) (kx (13 + q)) (vx (13 + q)) (zI (px q)) hTq) (cwV 1 S.2.2.2.2 gX2_peek_X1_isWithin rfl rfl rfl (by decide +kernel) ⟨(Nat.le_of_ble_eq_true rfl), (Nat.le_of_ble_eq_true rfl)⟩) hG hTq.lt0 hTq.1 rfl rfl hl.1 rfl (Nat.le_of_ble_eq_true rfl) dX2_peek_14 ⟨(Nat.le_of_ble_eq_true rfl), (Nat.le_of_ble_eq_true rfl)⟩ (fun r9 f9 H locs hp hG => ?_)
  obtain ⟨rfl, rfl⟩ := hp
  refine b_if_ne S (b := (wi (cx (13 + q)) (zI (px q)))) (tgt := 28) dX2_peek_17 (by decide) (fun c_17 => ?_) (fun c_17 => ?_)
  · skip
    obtain ⟨i, hi, ei⟩ := wi_ex hTqn c_17
    refine lv_aload_n S.1 S.2.1 dX2_peek_28 rfl (lv_at hl 0 rfl) ?_
    refine o_get S hG i_X0 (by omega) hCq rfl 0 (by decide) kf_136 rfl dX2_peek_29 ?_
    refine o_get S hG i_X1 hTq.lt0 hTq.1 rfl 1 (by decide) kf_42 rfl dX2_peek_32 ?_
    refine lv_aload_n S.1 S.2.1 dX2_peek_35 rfl (lv_at hl 0 rfl) ?_
    refine o_get S hG i_X0 (by omega) hCq rfl 2 (by decide) kf_139 rfl dX2_peek_36 ?_
    refine o_top (ei) ?_
    refine o_iald S hG (j := i) hTq.lt2 hTq.2.2.1 (by omega) dX2_peek_39 (kk := ?_)
    exact ret _ _ _ _ _ _ _ _ hG ⟨rfl, q, hq1, rfl, hq2, i, hi, ei, rfl⟩ rfl (Nat.le_of_ble_eq_true rfl) (Nat.le_of_ble_eq_true rfl) dX2_peek_40
  · skip
    exact tht "java/util/NoSuchElementException" ["java/lang/RuntimeException", "java/lang/Exception"] 57 59 _ _ _ _ _ _ _ hG (Or.inr ⟨rfl, q, hq1, rfl, hq2, c_17⟩) (by decide) (by decide) (S.2.2.2.2 (.classLink RX2 57 "java/util/NoSuchElementException") (by decide +kernel)) (S.2.2.2.2 (.initialized "java/util/NoSuchElementException") (by decide +kernel)) (vx_hat (fun w h => S.2.2.2.2 w ((by decide +kernel : ∀ w ∈ (vx_at0 RX2 59 "java/util/NoSuchElementException" ["java/lang/RuntimeException", "java/lang/Exception"]).filter goodWord, w ∈ wsX2_peek) w h)) (by decide +kernel : ∀ w ∈ (vx_at0 RX2 59 "java/util/NoSuchElementException" ["java/lang/RuntimeException", "java/lang/Exception"]).filter (fun w => !goodWord w), w ∈ ov_NG) hG.2.2.2.2.1.2.2.use) (by decide +kernel) (hl.1.trans S.2.2.1.symm) dX2_peek_20 dX2_peek_23 dX2_peek_24 dX2_peek_27 (Nat.le_of_ble_eq_true rfl) (Nat.le_of_ble_eq_true rfl) (Nat.le_of_ble_eq_true rfl) (Nat.le_of_ble_eq_true rfl) (Nat.le_of_ble_eq_true rfl) (Nat.le_of_ble_eq_true rfl)

set_option maxHeartbeats 4000000 in
set_option maxRecDepth 100000 in
theorem c_X2_close (l : Launch) (hst : l.stackTraces = false) (G : Gx) (ad : Nat → Nat) (s0 : Nat) (f : Nat → va_E) (th : Nat → Bool) (cx : Nat → Nat) (kx vx : Nat → Nat → Int32) (px : Nat → Int) (dx : Nat → Bool) (v : Int32) (hX : RX G ad f th cx kx vx px dx) (hS : ∀ j, j < 21 → Srt (cx j) (kx j))  : xI l yX2_close wsX2_close 7 131 1 6 [.ref (ad 0), .int v] G 84 ad s0 f (fun E => E = xIO ∧ isc th v = false) (fun r f' => OnX f f' ∧ ∃ q, q < 8 ∧ v = nI q ∧ th (13 + q) = true ∧ r = nI (cnt (8 - 0) (fun z => (fun q9 => va_up th (13 + q) false (13 + q9)) (0 + z))) ∧ RX G ad f' (va_up th (13 + q) false) (va_up cx (13 + q) 0) kx vx (va_up px q 0) dx) := by
  refine ov_xI (cc := cX2_close) (maxL := 2) (ty := .int) hst (by decide) rfl (Nat.le_of_ble_eq_true rfl) ?_
  intro p e s m below meth c av Q S ret thx tht hG ls hl
  have S : CallFix p m c cX2_close 2 s av wsX2_close RX2 := S
  have hl : lv_has ls 2 [(0, .ref (ad 0)), (1, .int v)] := hl
  have i_X2 : ∀ w ∈ u_ws RX2 TX2 5, w ∈ wsX2_close := by decide +kernel
  have kf_30 := S.2.2.2.2 (.fieldLink RX2 30 "OrderedVersions" "cursorTaken" "[Z") (by decide +kernel)
  obtain ⟨hX0, ⟨g4, hX4, hg4⟩, ⟨g5, hX5, hg5⟩, ⟨g42, hX42, hg42⟩, ⟨g43, hX43, hg43⟩, hXT, hXC⟩ := id hX
  have hT0 : TB G 84 ad f 1 (cx 0) (kx 0) (vx 0) := hXT 0 (by decide)
  have hT0n := hT0.2.2.2.1
  have hS0 := hS 0 (by decide)
  refine lv_aload_n S.1 S.2.1 dX2_close_0 rfl (lv_at hl 0 rfl) ?_
  refine lv_iload_n S.1 S.2.1 dX2_close_1 rfl (lv_at hl 1 rfl) ?_
  refine o_xVr S (rest := []) (c_X2_cursorOf l hst G ad s0 f th cx kx vx px dx v hX hS ) (cwV 1 S.2.2.2.2 gX2_close_X2_cursorOf rfl rfl rfl (by decide +kernel) ⟨(Nat.le_of_ble_eq_true rfl), (Nat.le_of_ble_eq_true rfl)⟩) hG (by decide) hX0 rfl rfl hl.1 rfl (Nat.le_of_ble_eq_true rfl) dX2_close_2 ⟨(Nat.le_of_ble_eq_true rfl), (Nat.le_of_ble_eq_true rfl)⟩ (fun E ce q9 H locs hE hG h1 h2 h3 => thx E ce q9 _ _ _ _ _ _ _ hG (hE) h1 h2 h3 (Nat.le_of_ble_eq_true rfl) (Nat.le_of_ble_eq_true rfl)) (fun r9 f9 H locs hp hG => ?_)
  obtain ⟨rfl, q, hq1, rfl, hq2, rfl⟩ := hp
  have hCq := hXC q hq1
  have hTq : TB G 84 ad f (44 + 4 * q + 1) (cx (13 + q)) (kx (13 + q)) (vx (13 + q)) := by have h9 := hXT (13 + q) (by omega); rw [tc_c] at h9; rw [show 44 + 4 * q + 1 = 45 + 4 * q by omega]; exact h9
  have hTqn := hTq.2.2.2.1
  refine o_cVv S (rest := []) (c_X0_stop l G 84 ad s0 f (44 + 4 * q) (cx (13 + q)) (kx (13 + q)) (vx (13 + q)) (dx q) (px q) hCq hTq) (cwV 0 S.2.2.2.2 gX2_close_X0_stop rfl rfl rfl (by decide +kernel) ⟨(Nat.le_of_ble_eq_true rfl), (Nat.le_of_ble_eq_true rfl)⟩) hG (by omega) hCq rfl rfl hl.1 rfl (Nat.le_of_ble_eq_true rfl) dX2_close_5 ⟨(Nat.le_of_ble_eq_true rfl), (Nat.le_of_ble_eq_true rfl)⟩ (fun f9 H locs hp hG => ?_)
  obtain ⟨hO9, hT9, hC9⟩ := hp
  have hX := hX.setC (q := q) hq1 (by rw [show 45 + 4 * q = 44 + 4 * q + 1 by omega]; exact hT9) hC9 hO9
  rw [up_id, up_id, up_id] at hX
  have hOX := hO9.x (by omega)
  obtain ⟨hX0, ⟨g4, hX4, hg4⟩, ⟨g5, hX5, hg5⟩, ⟨g42, hX42, hg42⟩, ⟨g43, hX43, hg43⟩, hXT, hXC⟩ := id hX
  refine lv_aload_n S.1 S.2.1 dX2_close_8 rfl (lv_at hl 0 rfl) ?_
  refine o_get S hG i_X2 (by decide) hX0 rfl 4 (by decide) kf_30 rfl dX2_close_9 ?_
  refine lv_iload_n S.1 S.2.1 dX2_close_12 rfl (lv_at hl 1 rfl) ?_
  refine lv_iconst (v := (nI 0)) S.1 S.2.1 dX2_close_13 (by decide) ?_
  refine o_zast S hG (j := q) (by decide) hX43 (by omega) rfl dX2_close_14 (kk := fun H locs hG => ?_)
  obtain ⟨f_1, ef_1, hG⟩ := ov_name hG
  have hX := hX.set43 (b := false) hX43 (by omega) ef_1
  have hOX := hOX.up ef_1 (by decide)
  obtain ⟨hX0, ⟨g4, hX4, hg4⟩, ⟨g5, hX5, hg5⟩, ⟨g42, hX42, hg42⟩, ⟨g43, hX43, hg43⟩, hXT, hXC⟩ := id hX
  refine lv_aload_n S.1 S.2.1 dX2_close_15 rfl (lv_at hl 0 rfl) ?_
  refine o_get S hG i_X2 (by decide) hX0 rfl 4 (by decide) kf_30 rfl dX2_close_16 ?_
  refine lv_iconst (v := (nI 0)) S.1 S.2.1 dX2_close_19 (by decide) ?_
  refine o_cSi S (rest := []) (c_X2_countTaken l G ad s0 f_1 43 8 g43 (fun q9 => va_up th (13 + q) false (13 + q9)) 0 (by decide) hX43 (by decide) hg43 (by decide)) (va_cwS 2 S.2.2.2.2 gX2_close_X2_countTaken rfl rfl rfl (by decide +kernel) ⟨(Nat.le_of_ble_eq_true rfl), (Nat.le_of_ble_eq_true rfl)⟩) hG rfl hl.1 rfl (Nat.le_of_ble_eq_true rfl) dX2_close_20 ⟨(Nat.le_of_ble_eq_true rfl), (Nat.le_of_ble_eq_true rfl)⟩ (fun r9 f9 H locs hp hG => ?_)
  obtain ⟨rfl, rfl⟩ := hp
  exact ret _ _ _ _ _ _ _ _ hG ⟨hOX, q, hq1, rfl, hq2, rfl, hX⟩ rfl (Nat.le_of_ble_eq_true rfl) (Nat.le_of_ble_eq_true rfl) dX2_close_23

set_option maxHeartbeats 4000000 in
set_option maxRecDepth 100000 in
theorem c_X2_astray (l : Launch) (G : Gx) (ad : Nat → Nat) (s0 : Nat) (f : Nat → va_E) (th : Nat → Bool) (cx : Nat → Nat) (kx vx : Nat → Nat → Int32) (px : Nat → Int) (dx : Nat → Bool)  (hX : RX G ad f th cx kx vx px dx) (hS : ∀ j, j < 21 → Srt (cx j) (kx j)) (hz : ∀ j, j < 21 → th j = false → cx j = 0) (h00 : th 0 = true) (hp9 : ∀ q, q < 8 → -1 ≤ px q ∧ px q ≤ cx (13 + q)) : mI l yX2_astray wsX2_astray 2 45 0 0 [.ref (ad 0)] G 84 ad s0 f (fun r f' => f = f' ∧ r = nI 0) := by
  refine ov_mI (cc := cX2_astray) (maxL := 3) (ty := .int) (by decide) rfl (Nat.le_of_ble_eq_true rfl) ?_
  intro p e s m below meth c av Q S ret hG ls hl
  have S : CallFix p m c cX2_astray 3 s av wsX2_astray RX2 := S
  have hl : lv_has ls 3 [(0, .ref (ad 0))] := hl
  have i_X2 : ∀ w ∈ u_ws RX2 TX2 5, w ∈ wsX2_astray := by decide +kernel
  have kf_16 := S.2.2.2.2 (.fieldLink RX2 16 "OrderedVersions" "versions" "[LOrderedVersions$Table;") (by decide +kernel)
  have kf_20 := S.2.2.2.2 (.fieldLink RX2 20 "OrderedVersions" "versionTaken" "[Z") (by decide +kernel)
  have kf_26 := S.2.2.2.2 (.fieldLink RX2 26 "OrderedVersions" "cursors" "[LOrderedVersions$Cursor;") (by decide +kernel)
  have kf_30 := S.2.2.2.2 (.fieldLink RX2 30 "OrderedVersions" "cursorTaken" "[Z") (by decide +kernel)
  obtain ⟨hX0, ⟨g4, hX4, hg4⟩, ⟨g5, hX5, hg5⟩, ⟨g42, hX42, hg42⟩, ⟨g43, hX43, hg43⟩, hXT, hXC⟩ := id hX
  have hT0 : TB G 84 ad f 1 (cx 0) (kx 0) (vx 0) := hXT 0 (by decide)
  have hT0n := hT0.2.2.2.1
  have hS0 := hS 0 (by decide)
  refine lv_aload_n S.1 S.2.1 dX2_astray_0 rfl (lv_at hl 0 rfl) ?_
  refine o_get S hG i_X2 (by decide) hX0 rfl 2 (by decide) kf_20 rfl dX2_astray_1 ?_
  refine lv_iconst (v := (nI 0)) S.1 S.2.1 dX2_astray_4 (by decide) ?_
  refine o_zald S hG (j := 0) (by decide) hX5 (by omega) dX2_astray_5 (kk := ?_)
  refine o_top (hg5 0 (by decide)) ?_
  refine b_if_eq S (b := (th 0)) (tgt := 13) dX2_astray_6 (by decide) (fun c_6 => ?_) (fun c_6 => ?_)
  · skip
    exact absurd c_6 (by rw [h00]; decide)
  · skip
    refine lv_iconst (v := (nI 0)) S.1 S.2.1 dX2_astray_9 (by decide) ?_
    refine lv_goto (tgt := 14) S.1 S.2.1 dX2_astray_10 (by decide) ?_
    refine lv_istore_n (lv' := [(1, .int (nI 0)), (0, .ref (ad 0))]) S.1 S.2.1 dX2_astray_14 rfl hl (by decide) rfl (fun ls hl => ?_)
    refine lv_iconst (v := (nI 0)) S.1 S.2.1 dX2_astray_15 (by decide) ?_
    refine lv_istore_n (lv' := [(2, .int (nI 0)), (1, .int (nI 0)), (0, .ref (ad 0))]) S.1 S.2.1 dX2_astray_16 rfl hl (by decide) rfl (fun ls hl => ?_)
    have L_17 : ∀ (d9 : Nat) (i : Nat) (H : Heap) (locs : List Loc), (i ≤ 13) → (13 - i) < d9 → ov_dy G 84 ad s0 s f H locs → ∀ ls : Array Slot, lv_has ls 3 [(0, .ref (ad 0)), (1, .int (nI 0)), (2, .int (nI i))] → W p l e (ov_rm 2 45 0 0) s m av below meth c H locs 0 0 Q (F0 m 17 ls []) := by
      intro d9
      induction d9 with
      | zero => intro i H locs hi h9; exact absurd h9 (Nat.not_lt_zero _)
      | succ d9 ih_17 =>
        intro i H locs hi h9 hG ls hl
        refine lv_iload_n S.1 S.2.1 dX2_astray_17 rfl (lv_at hl 2 rfl) ?_
        refine lv_aload_n S.1 S.2.1 dX2_astray_18 rfl (lv_at hl 0 rfl) ?_
        refine o_get S hG i_X2 (by decide) hX0 rfl 1 (by decide) kf_16 rfl dX2_astray_19 ?_
        refine o_alen S hG 2 (by decide) hX4 rfl dX2_astray_22 ?_
        refine n_ge S (a := i) (b := 13) (tgt := 50) dX2_astray_23 (by decide) (by omega) (by omega) (fun c_23 => ?_) (fun c_23 => ?_)
        · skip
          refine lv_iconst (v := (nI 0)) S.1 S.2.1 dX2_astray_50 (by decide) ?_
          refine lv_istore_n (lv' := [(2, .int (nI 0)), (0, .ref (ad 0)), (1, .int (nI 0))]) S.1 S.2.1 dX2_astray_51 rfl hl (by decide) rfl (fun ls hl => ?_)
          have L_52 : ∀ (d9 : Nat) (i : Nat) (H : Heap) (locs : List Loc), (i ≤ 8) → (8 - i) < d9 → ov_dy G 84 ad s0 s f H locs → ∀ ls : Array Slot, lv_has ls 3 [(0, .ref (ad 0)), (1, .int (nI 0)), (2, .int (nI i))] → W p l e (ov_rm 2 45 0 0) s m av below meth c H locs 0 0 Q (F0 m 52 ls []) := by
            intro d9
            induction d9 with
            | zero => intro i H locs hi h9; exact absurd h9 (Nat.not_lt_zero _)
            | succ d9 ih_52 =>
              intro i H locs hi h9 hG ls hl
              refine lv_iload_n S.1 S.2.1 dX2_astray_52 rfl (lv_at hl 2 rfl) ?_
              refine lv_aload_n S.1 S.2.1 dX2_astray_53 rfl (lv_at hl 0 rfl) ?_
              refine o_get S hG i_X2 (by decide) hX0 rfl 3 (by decide) kf_26 rfl dX2_astray_54 ?_
              refine o_alen S hG 3 (by decide) hX42 rfl dX2_astray_57 ?_
              refine n_ge S (a := i) (b := 8) (tgt := 85) dX2_astray_58 (by decide) (by omega) (by omega) (fun c_58 => ?_) (fun c_58 => ?_)
              · skip
                refine lv_iload_n S.1 S.2.1 dX2_astray_85 rfl (lv_at hl 1 rfl) ?_
                exact ret _ _ _ _ _ _ _ _ hG ⟨rfl, rfl⟩ rfl (Nat.le_of_ble_eq_true rfl) (Nat.le_of_ble_eq_true rfl) dX2_astray_86
              · skip
                refine lv_iload_n S.1 S.2.1 dX2_astray_61 rfl (lv_at hl 1 rfl) ?_
                refine lv_aload_n S.1 S.2.1 dX2_astray_62 rfl (lv_at hl 0 rfl) ?_
                refine o_get S hG i_X2 (by decide) hX0 rfl 3 (by decide) kf_26 rfl dX2_astray_63 ?_
                refine lv_iload_n S.1 S.2.1 dX2_astray_66 rfl (lv_at hl 2 rfl) ?_
                refine o_Uald S hG (j := i) (by decide) hX42 (by omega) (hg42 i (by omega)) dX2_astray_67 (kk := ?_)
                have hTi : TB G 84 ad f (44 + 4 * i + 1) (cx (13 + i)) (kx (13 + i)) (vx (13 + i)) := by have h9 := hXT (13 + i) (by omega); rw [tc_c] at h9; rw [show 44 + 4 * i + 1 = 45 + 4 * i by omega]; exact h9
                refine lv_aload_n S.1 S.2.1 dX2_astray_68 rfl (lv_at hl 0 rfl) ?_
                refine o_get S hG i_X2 (by decide) hX0 rfl 4 (by decide) kf_30 rfl dX2_astray_69 ?_
                refine lv_iload_n S.1 S.2.1 dX2_astray_72 rfl (lv_at hl 2 rfl) ?_
                refine o_zald S hG (j := i) (by decide) hX43 (by omega) dX2_astray_73 (kk := ?_)
                refine o_top (hg43 i (by omega)) ?_
                refine o_cVi S (rest := [.int (nI 0)]) (c_X0_countWrong l G 84 ad s0 f (44 + 4 * i) (cx (13 + i)) (kx (13 + i)) (vx (13 + i)) (dx i) (px i) (th (13 + i)) (hXC i (by omega)) hTi (hp9 i (by omega)) (hS (13 + i) (by omega)) (hz (13 + i) (by omega))) (cwV 1 S.2.2.2.2 gX2_astray_X0_countWrong rfl rfl rfl (by decide +kernel) ⟨(Nat.le_of_ble_eq_true rfl), (Nat.le_of_ble_eq_true rfl)⟩) hG (by omega) (hXC i (by omega)) rfl rfl hl.1 rfl (Nat.le_of_ble_eq_true rfl) dX2_astray_74 ⟨(Nat.le_of_ble_eq_true rfl), (Nat.le_of_ble_eq_true rfl)⟩ (fun r9 f9 H locs hp hG => ?_)
                obtain ⟨rfl, rfl⟩ := hp
                refine o_add S (a := 0) (b := 0) dX2_astray_77 ?_
                refine o_top (rfl) ?_
                refine lv_istore_n (lv' := [(1, .int (nI 0)), (0, .ref (ad 0)), (2, .int (nI i))]) S.1 S.2.1 dX2_astray_78 rfl hl (by decide) rfl (fun ls hl => ?_)
                refine lv_iinc (v := (nI (i + 1))) (lv' := [(2, .int (nI (i + 1))), (1, .int (nI 0)), (0, .ref (ad 0))]) S.1 S.2.1 dX2_astray_79 hl (k := 2) rfl (nI_add i 1) (by decide) rfl (fun ls hl => ?_)
                refine lv_goto (tgt := 52) S.1 S.2.1 dX2_astray_82 (by decide) ?_
                exact ih_52 (i + 1) _ _ (by omega) (by omega) hG ls (lv_sub hl [2, 1, 0] rfl)
          exact L_52 _ 0 _ _ (by decide) (Nat.lt_succ_self _) hG ls (lv_sub hl [1, 2, 0] rfl)
        · skip
          refine lv_iload_n S.1 S.2.1 dX2_astray_26 rfl (lv_at hl 1 rfl) ?_
          refine lv_aload_n S.1 S.2.1 dX2_astray_27 rfl (lv_at hl 0 rfl) ?_
          refine o_get S hG i_X2 (by decide) hX0 rfl 1 (by decide) kf_16 rfl dX2_astray_28 ?_
          refine lv_iload_n S.1 S.2.1 dX2_astray_31 rfl (lv_at hl 2 rfl) ?_
          refine o_Tald S hG (j := i) (by decide) hX4 (by omega) (hg4 i (by omega)) dX2_astray_32 (kk := ?_)
          refine lv_aload_n S.1 S.2.1 dX2_astray_33 rfl (lv_at hl 0 rfl) ?_
          refine o_get S hG i_X2 (by decide) hX0 rfl 2 (by decide) kf_20 rfl dX2_astray_34 ?_
          refine lv_iload_n S.1 S.2.1 dX2_astray_37 rfl (lv_at hl 2 rfl) ?_
          refine o_zald S hG (j := i) (by decide) hX5 (by omega) dX2_astray_38 (kk := ?_)
          refine o_top (hg5 i (by omega)) ?_
          refine o_cVi S (rest := [.int (nI 0)]) (c_X1_countWrong l G 84 ad s0 f (tc i) (cx i) (kx i) (vx i) (th i) (hXT i (by omega)) (hS i (by omega)) (hz i (by omega))) (cwV 1 S.2.2.2.2 gX2_astray_X1_countWrong rfl rfl rfl (by decide +kernel) ⟨(Nat.le_of_ble_eq_true rfl), (Nat.le_of_ble_eq_true rfl)⟩) hG (hXT i (by omega)).lt0 (hXT i (by omega)).1 rfl rfl hl.1 rfl (Nat.le_of_ble_eq_true rfl) dX2_astray_39 ⟨(Nat.le_of_ble_eq_true rfl), (Nat.le_of_ble_eq_true rfl)⟩ (fun r9 f9 H locs hp hG => ?_)
          obtain ⟨rfl, rfl⟩ := hp
          refine o_add S (a := 0) (b := 0) dX2_astray_42 ?_
          refine o_top (rfl) ?_
          refine lv_istore_n (lv' := [(1, .int (nI 0)), (0, .ref (ad 0)), (2, .int (nI i))]) S.1 S.2.1 dX2_astray_43 rfl hl (by decide) rfl (fun ls hl => ?_)
          refine lv_iinc (v := (nI (i + 1))) (lv' := [(2, .int (nI (i + 1))), (1, .int (nI 0)), (0, .ref (ad 0))]) S.1 S.2.1 dX2_astray_44 hl (k := 2) rfl (nI_add i 1) (by decide) rfl (fun ls hl => ?_)
          refine lv_goto (tgt := 17) S.1 S.2.1 dX2_astray_47 (by decide) ?_
          exact ih_17 (i + 1) _ _ (by omega) (by omega) hG ls (lv_sub hl [2, 1, 0] rfl)
    exact L_17 _ 0 _ _ (by decide) (Nat.lt_succ_self _) hG ls (lv_sub hl [2, 1, 0] rfl)

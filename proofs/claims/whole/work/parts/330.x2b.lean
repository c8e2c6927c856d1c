set_option maxHeartbeats 4000000 in
set_option maxRecDepth 100000 in
theorem c_X2_put (l : Launch) (hst : l.stackTraces = false) (G : Gx) (ad : Nat → Nat) (s0 : Nat) (f : Nat → va_E) (th : Nat → Bool) (cx : Nat → Nat) (kx vx : Nat → Nat → Int32) (px : Nat → Int) (dx : Nat → Bool) (key w : Int32) (hX : RX G ad f th cx kx vx px dx) (hS : ∀ j, j < 21 → Srt (cx j) (kx j))  : xI l yX2_put wsX2_put 6 110 1 6 [.ref (ad 0), .int key, .int w] G 84 ad s0 f (fun E => E = xUO ∧ hs (cx 0) (kx 0) key = false ∧ cx 0 = 600) (fun r f' => OnX f f' ∧ ((hs (cx 0) (kx 0) key = true ∧ r = nI 0 ∧ RX G ad f' th cx kx (va_up vx 0 (upd (vx 0) (bel (cx 0) (kx 0) key) w)) px dx) ∨ (hs (cx 0) (kx 0) key = false ∧ cx 0 < 600 ∧ r = nI 1 ∧ ∃ k2 v2, RX G ad f' th (va_up cx 0 (cx 0 + 1)) (va_up kx 0 k2) (va_up vx 0 v2) px dx ∧ ∀ i, i < cx 0 + 1 → k2 i = insF (kx 0) (bel (cx 0) (kx 0) key) key i ∧ v2 i = insF (vx 0) (bel (cx 0) (kx 0) key) w i))) := by
  refine ov_xI (cc := cX2_put) (maxL := 4) (ty := .boolean) hst (by decide) rfl (Nat.le_of_ble_eq_true rfl) ?_
  intro p e s m below meth c av Q S ret thx tht hG ls hl
  have S : CallFix p m c cX2_put 4 s av wsX2_put RX2 := S
  have hl : lv_has ls 4 [(0, .ref (ad 0)), (1, .int key), (2, .int w)] := hl
  have i_X1 : ∀ w ∈ u_ws RX1 TX1 3, w ∈ wsX2_put := by decide +kernel
  have i_X2 : ∀ w ∈ u_ws RX2 TX2 5, w ∈ wsX2_put := by decide +kernel
  have kf_10 := S.2.2.2.2 (.fieldLink RX2 10 "OrderedVersions" "present" "LOrderedVersions$Table;") (by decide +kernel)
  have kf_42 := S.2.2.2.2 (.fieldLink RX2 42 "OrderedVersions$Table" "values" "[I") (by decide +kernel)
  have kf_46 := S.2.2.2.2 (.fieldLink RX2 46 "OrderedVersions$Table" "count" "I") (by decide +kernel)
  obtain ⟨hX0, ⟨g4, hX4, hg4⟩, ⟨g5, hX5, hg5⟩, ⟨g42, hX42, hg42⟩, ⟨g43, hX43, hg43⟩, hXT, hXC⟩ := id hX
  have hT0 : TB G 84 ad f 1 (cx 0) (kx 0) (vx 0) := hXT 0 (by decide)
  have hT0n := hT0.2.2.2.1
  have hS0 := hS 0 (by decide)
  have hO : Onl 1 f f := Onl.rf
  refine lv_aload_n S.1 S.2.1 dX2_put_0 rfl (lv_at hl 0 rfl) ?_
  refine o_get S hG i_X2 (by decide) hX0 rfl 0 (by decide) kf_10 rfl dX2_put_1 ?_
  refine lv_iload_n S.1 S.2.1 dX2_put_4 rfl (lv_at hl 1 rfl) ?_
  refine o_cVi S (rest := []) (c_X1_countBelow l G 84 ad s0 f 1 (cx 0) (kx 0) (vx 0) key hT0) (cwV 1 S.2.2.2.2 gX2_put_X1_countBelow rfl rfl rfl (by decide +kernel) ⟨(Nat.le_of_ble_eq_true rfl), (Nat.le_of_ble_eq_true rfl)⟩) hG hT0.lt0 hT0.1 rfl rfl hl.1 rfl (Nat.le_of_ble_eq_true rfl) dX2_put_5 ⟨(Nat.le_of_ble_eq_true rfl), (Nat.le_of_ble_eq_true rfl)⟩ (fun r9 f9 H locs hp hG => ?_)
  obtain ⟨rfl, rfl⟩ := hp
  have lb_1 := bel_le (cx 0) (kx 0) key
  refine lv_istore_n (lv' := [(3, .int (nI (bel (cx 0) (kx 0) key))), (0, .ref (ad 0)), (1, .int key), (2, .int w)]) S.1 S.2.1 dX2_put_8 rfl hl (by decide) rfl (fun ls hl => ?_)
  refine lv_aload_n S.1 S.2.1 dX2_put_9 rfl (lv_at hl 1 rfl) ?_
  refine o_get S hG i_X2 (by decide) hX0 rfl 0 (by decide) kf_10 rfl dX2_put_10 ?_
  refine lv_iload_n S.1 S.2.1 dX2_put_13 rfl (lv_at hl 0 rfl) ?_
  refine lv_iload_n S.1 S.2.1 dX2_put_14 rfl (lv_at hl 2 rfl) ?_
  refine o_cVi S (rest := []) (c_X1_hasAt l G 84 ad s0 f 1 (cx 0) (kx 0) (vx 0) (nI (bel (cx 0) (kx 0) key)) key hT0) (cwV 2 S.2.2.2.2 gX2_put_X1_hasAt rfl rfl rfl (by decide +kernel) ⟨(Nat.le_of_ble_eq_true rfl), (Nat.le_of_ble_eq_true rfl)⟩) hG hT0.lt0 hT0.1 rfl rfl hl.1 rfl (Nat.le_of_ble_eq_true rfl) dX2_put_15 ⟨(Nat.le_of_ble_eq_true rfl), (Nat.le_of_ble_eq_true rfl)⟩ (fun r9 f9 H locs hp hG => ?_)
  obtain ⟨rfl, rfl⟩ := hp
  refine b_if_eq S (b := (ha (cx 0) (kx 0) (nI (bel (cx 0) (kx 0) key)) key)) (tgt := 33) dX2_put_18 (by decide) (fun c_18 => ?_) (fun c_18 => ?_)
  · skip
    refine lv_aload_n S.1 S.2.1 dX2_put_33 rfl (lv_at hl 1 rfl) ?_
    refine o_get S hG i_X2 (by decide) hX0 rfl 0 (by decide) kf_10 rfl dX2_put_34 ?_
    refine o_get S hG i_X1 hT0.lt0 hT0.1 rfl 2 (by decide) kf_46 rfl dX2_put_37 ?_
    refine lv_sipush (v := (nI 600)) S.1 S.2.1 dX2_put_40 (by decide) ?_
    refine n_lt S (a := cx 0) (b := 600) (tgt := 54) dX2_put_43 (by decide) (by omega) (by omega) (fun c_43 => ?_) (fun c_43 => ?_)
    · skip
      refine lv_aload_n S.1 S.2.1 dX2_put_54 rfl (lv_at hl 1 rfl) ?_
      refine o_get S hG i_X2 (by decide) hX0 rfl 0 (by decide) kf_10 rfl dX2_put_55 ?_
      refine lv_iload_n S.1 S.2.1 dX2_put_58 rfl (lv_at hl 0 rfl) ?_
      refine lv_iload_n S.1 S.2.1 dX2_put_59 rfl (lv_at hl 2 rfl) ?_
      refine lv_iload_n S.1 S.2.1 dX2_put_60 rfl (lv_at hl 3 rfl) ?_
      refine o_cVv S (rest := []) (c_X1_insertAt l G 84 ad s0 f 1 (cx 0) (kx 0) (vx 0) (bel (cx 0) (kx 0) key) key w hT0 (by omega) (by omega)) (cwV 3 S.2.2.2.2 gX2_put_X1_insertAt rfl rfl rfl (by decide +kernel) ⟨(Nat.le_of_ble_eq_true rfl), (Nat.le_of_ble_eq_true rfl)⟩) hG hT0.lt0 hT0.1 rfl rfl hl.1 rfl (Nat.le_of_ble_eq_true rfl) dX2_put_61 ⟨(Nat.le_of_ble_eq_true rfl), (Nat.le_of_ble_eq_true rfl)⟩ (fun f9 H locs hp hG => ?_)
      obtain ⟨k2, v2, hT9, hO9, hk9⟩ := hp
      refine lv_iconst (v := (nI 1)) S.1 S.2.1 dX2_put_64 (by decide) ?_
      exact ret _ _ _ _ _ _ _ _ hG ⟨hO9.x (by decide), Or.inr ⟨(ha_bel hT0n).symm.trans c_18, by omega, rfl, k2, v2, hX.set (j := 0) (by decide) hT9 hO9, hk9⟩⟩ rfl (Nat.le_of_ble_eq_true rfl) (Nat.le_of_ble_eq_true rfl) dX2_put_65
    · skip
      exact tht "java/lang/UnsupportedOperationException" ["java/lang/RuntimeException", "java/lang/Exception"] 50 52 _ _ _ _ _ _ _ hG (⟨rfl, (ha_bel hT0n).symm.trans c_18, by omega⟩) (by decide) (by decide) (S.2.2.2.2 (.classLink RX2 50 "java/lang/UnsupportedOperationException") (by decide +kernel)) (S.2.2.2.2 (.initialized "java/lang/UnsupportedOperationException") (by decide +kernel)) (vx_hat (fun w h => S.2.2.2.2 w ((by decide +kernel : ∀ w ∈ (vx_at0 RX2 52 "java/lang/UnsupportedOperationException" ["java/lang/RuntimeException", "java/lang/Exception"]).filter goodWord, w ∈ wsX2_put) w h)) (by decide +kernel : ∀ w ∈ (vx_at0 RX2 52 "java/lang/UnsupportedOperationException" ["java/lang/RuntimeException", "java/lang/Exception"]).filter (fun w => !goodWord w), w ∈ ov_NG) hG.2.2.2.2.1.2.2.use) (by decide +kernel) (hl.1.trans S.2.2.1.symm) dX2_put_46 dX2_put_49 dX2_put_50 dX2_put_53 (Nat.le_of_ble_eq_true rfl) (Nat.le_of_ble_eq_true rfl) (Nat.le_of_ble_eq_true rfl) (Nat.le_of_ble_eq_true rfl) (Nat.le_of_ble_eq_true rfl) (Nat.le_of_ble_eq_true rfl)
  · skip
    refine lv_aload_n S.1 S.2.1 dX2_put_21 rfl (lv_at hl 1 rfl) ?_
    refine o_get S hG i_X2 (by decide) hX0 rfl 0 (by decide) kf_10 rfl dX2_put_22 ?_
    refine o_get S hG i_X1 hT0.lt0 hT0.1 rfl 1 (by decide) kf_42 rfl dX2_put_25 ?_
    refine lv_iload_n S.1 S.2.1 dX2_put_28 rfl (lv_at hl 0 rfl) ?_
    refine lv_iload_n S.1 S.2.1 dX2_put_29 rfl (lv_at hl 3 rfl) ?_
    refine o_iast S hG (j := bel (cx 0) (kx 0) key) hT0.lt2 hT0.2.2.1 (ha_lt hT0n (by omega) c_18) dX2_put_30 (kk := fun H locs hG => ?_)
    obtain ⟨f_2, ef_2, hG⟩ := ov_name hG
    have hT0 := hT0.upv ef_2
    have hO := hO.up ef_2 (by omega)
    refine lv_iconst (v := (nI 0)) S.1 S.2.1 dX2_put_31 (by decide) ?_
    exact ret _ _ _ _ _ _ _ _ hG ⟨hO.x (by decide), Or.inl ⟨(ha_bel hT0n).symm.trans c_18, rfl, by have h9 := hX.set (j := 0) (by decide) hT0 hO; rw [up_id, up_id] at h9; exact h9⟩⟩ rfl (Nat.le_of_ble_eq_true rfl) (Nat.le_of_ble_eq_true rfl) dX2_put_32

set_option maxHeartbeats 4000000 in
set_option maxRecDepth 100000 in
theorem c_X2_remove (l : Launch) (hst : l.stackTraces = false) (G : Gx) (ad : Nat → Nat) (s0 : Nat) (f : Nat → va_E) (th : Nat → Bool) (cx : Nat → Nat) (kx vx : Nat → Nat → Int32) (px : Nat → Int) (dx : Nat → Bool) (key : Int32) (hX : RX G ad f th cx kx vx px dx) (hS : ∀ j, j < 21 → Srt (cx j) (kx j))  : xI l yX2_remove wsX2_remove 6 110 1 6 [.ref (ad 0), .int key] G 84 ad s0 f (fun E => E = xNS ∧ hs (cx 0) (kx 0) key = false) (fun r f' => OnX f f' ∧ hs (cx 0) (kx 0) key = true ∧ r = vx 0 (bel (cx 0) (kx 0) key) ∧ ∃ k2 v2, RX G ad f' th (va_up cx 0 (cx 0 - 1)) (va_up kx 0 k2) (va_up vx 0 v2) px dx ∧ ∀ i, i < cx 0 - 1 → k2 i = delF (kx 0) (bel (cx 0) (kx 0) key) 1 i ∧ v2 i = delF (vx 0) (bel (cx 0) (kx 0) key) 1 i) := by
  refine ov_xI (cc := cX2_remove) (maxL := 4) (ty := .int) hst (by decide) rfl (Nat.le_of_ble_eq_true rfl) ?_
  intro p e s m below meth c av Q S ret thx tht hG ls hl
  have S : CallFix p m c cX2_remove 4 s av wsX2_remove RX2 := S
  have hl : lv_has ls 4 [(0, .ref (ad 0)), (1, .int key)] := hl
  have i_X1 : ∀ w ∈ u_ws RX1 TX1 3, w ∈ wsX2_remove := by decide +kernel
  have i_X2 : ∀ w ∈ u_ws RX2 TX2 5, w ∈ wsX2_remove := by decide +kernel
  have kf_10 := S.2.2.2.2 (.fieldLink RX2 10 "OrderedVersions" "present" "LOrderedVersions$Table;") (by decide +kernel)
  have kf_42 := S.2.2.2.2 (.fieldLink RX2 42 "OrderedVersions$Table" "values" "[I") (by decide +kernel)
  obtain ⟨hX0, ⟨g4, hX4, hg4⟩, ⟨g5, hX5, hg5⟩, ⟨g42, hX42, hg42⟩, ⟨g43, hX43, hg43⟩, hXT, hXC⟩ := id hX
  have hT0 : TB G 84 ad f 1 (cx 0) (kx 0) (vx 0) := hXT 0 (by decide)
  have hT0n := hT0.2.2.2.1
  have hS0 := hS 0 (by decide)
  refine lv_aload_n S.1 S.2.1 dX2_remove_0 rfl (lv_at hl 0 rfl) ?_
  refine o_get S hG i_X2 (by decide) hX0 rfl 0 (by decide) kf_10 rfl dX2_remove_1 ?_
  refine lv_iload_n S.1 S.2.1 dX2_remove_4 rfl (lv_at hl 1 rfl) ?_
  refine o_cVi S (rest := []) (c_X1_countBelow l G 84 ad s0 f 1 (cx 0) (kx 0) (vx 0) key hT0) (cwV 1 S.2.2.2.2 gX2_remove_X1_countBelow rfl rfl rfl (by decide +kernel) ⟨(Nat.le_of_ble_eq_true rfl), (Nat.le_of_ble_eq_true rfl)⟩) hG hT0.lt0 hT0.1 rfl rfl hl.1 rfl (Nat.le_of_ble_eq_true rfl) dX2_remove_5 ⟨(Nat.le_of_ble_eq_true rfl), (Nat.le_of_ble_eq_true rfl)⟩ (fun r9 f9 H locs hp hG => ?_)
  obtain ⟨rfl, rfl⟩ := hp
  have lb_1 := bel_le (cx 0) (kx 0) key
  refine lv_istore_n (lv' := [(2, .int (nI (bel (cx 0) (kx 0) key))), (0, .ref (ad 0)), (1, .int key)]) S.1 S.2.1 dX2_remove_8 rfl hl (by decide) rfl (fun ls hl => ?_)
  refine lv_aload_n S.1 S.2.1 dX2_remove_9 rfl (lv_at hl 1 rfl) ?_
  refine o_get S hG i_X2 (by decide) hX0 rfl 0 (by decide) kf_10 rfl dX2_remove_10 ?_
  refine lv_iload_n S.1 S.2.1 dX2_remove_13 rfl (lv_at hl 0 rfl) ?_
  refine lv_iload_n S.1 S.2.1 dX2_remove_14 rfl (lv_at hl 2 rfl) ?_
  refine o_cVi S (rest := []) (c_X1_hasAt l G 84 ad s0 f 1 (cx 0) (kx 0) (vx 0) (nI (bel (cx 0) (kx 0) key)) key hT0) (cwV 2 S.2.2.2.2 gX2_remove_X1_hasAt rfl rfl rfl (by decide +kernel) ⟨(Nat.le_of_ble_eq_true rfl), (Nat.le_of_ble_eq_true rfl)⟩) hG hT0.lt0 hT0.1 rfl rfl hl.1 rfl (Nat.le_of_ble_eq_true rfl) dX2_remove_15 ⟨(Nat.le_of_ble_eq_true rfl), (Nat.le_of_ble_eq_true rfl)⟩ (fun r9 f9 H locs hp hG => ?_)
  obtain ⟨rfl, rfl⟩ := hp
  refine b_if_ne S (b := (ha (cx 0) (kx 0) (nI (bel (cx 0) (kx 0) key)) key)) (tgt := 29) dX2_remove_18 (by decide) (fun c_18 => ?_) (fun c_18 => ?_)
  · skip
    refine lv_aload_n S.1 S.2.1 dX2_remove_29 rfl (lv_at hl 1 rfl) ?_
    refine o_get S hG i_X2 (by decide) hX0 rfl 0 (by decide) kf_10 rfl dX2_remove_30 ?_
    refine o_get S hG i_X1 hT0.lt0 hT0.1 rfl 1 (by decide) kf_42 rfl dX2_remove_33 ?_
    refine lv_iload_n S.1 S.2.1 dX2_remove_36 rfl (lv_at hl 0 rfl) ?_
    refine o_iald S hG (j := bel (cx 0) (kx 0) key) hT0.lt2 hT0.2.2.1 (ha_lt hT0n (by omega) c_18) dX2_remove_37 (kk := ?_)
    refine lv_istore_n (lv' := [(3, .int ((vx 0) (bel (cx 0) (kx 0) key))), (2, .int (nI (bel (cx 0) (kx 0) key))), (0, .ref (ad 0)), (1, .int key)]) S.1 S.2.1 dX2_remove_38 rfl hl (by decide) rfl (fun ls hl => ?_)
    refine lv_aload_n S.1 S.2.1 dX2_remove_39 rfl (lv_at hl 2 rfl) ?_
    refine o_get S hG i_X2 (by decide) hX0 rfl 0 (by decide) kf_10 rfl dX2_remove_40 ?_
    refine lv_iload_n S.1 S.2.1 dX2_remove_43 rfl (lv_at hl 1 rfl) ?_
    refine lv_iload_n S.1 S.2.1 dX2_remove_44 rfl (lv_at hl 1 rfl) ?_
    refine lv_iconst (v := (nI 1)) S.1 S.2.1 dX2_remove_45 (by decide) ?_
    refine o_add S (a := bel (cx 0) (kx 0) key) (b := 1) dX2_remove_46 ?_
    refine o_cVv S (rest := []) (c_X1_dropBetween l G 84 ad s0 f 1 (cx 0) (kx 0) (vx 0) (bel (cx 0) (kx 0) key) ((bel (cx 0) (kx 0) key) + 1) hT0 (by omega) (hs_lt ((ha_bel hT0n).symm.trans c_18))) (cwV 2 S.2.2.2.2 gX2_remove_X1_dropBetween rfl rfl rfl (by decide +kernel) ⟨(Nat.le_of_ble_eq_true rfl), (Nat.le_of_ble_eq_true rfl)⟩) hG hT0.lt0 hT0.1 rfl rfl hl.1 rfl (Nat.le_of_ble_eq_true rfl) dX2_remove_47 ⟨(Nat.le_of_ble_eq_true rfl), (Nat.le_of_ble_eq_true rfl)⟩ (fun f9 H locs hp hG => ?_)
    obtain ⟨k2, v2, hT9, hO9, hk9⟩ := hp
    rw [Nat.add_sub_cancel_left] at hT9 hk9
    refine lv_iload_n S.1 S.2.1 dX2_remove_50 rfl (lv_at hl 0 rfl) ?_
    exact ret _ _ _ _ _ _ _ _ hG ⟨hO9.x (by decide), (ha_bel hT0n).symm.trans c_18, rfl, k2, v2, hX.set (j := 0) (by decide) hT9 hO9, hk9⟩ rfl (Nat.le_of_ble_eq_true rfl) (Nat.le_of_ble_eq_true rfl) dX2_remove_51
  · skip
    exact tht "java/util/NoSuchElementException" ["java/lang/RuntimeException", "java/lang/Exception"] 57 59 _ _ _ _ _ _ _ hG (⟨rfl, (ha_bel hT0n).symm.trans c_18⟩) (by decide) (by decide) (S.2.2.2.2 (.classLink RX2 57 "java/util/NoSuchElementException") (by decide +kernel)) (S.2.2.2.2 (.initialized "java/util/NoSuchElementException") (by decide +kernel)) (vx_hat (fun w h => S.2.2.2.2 w ((by decide +kernel : ∀ w ∈ (vx_at0 RX2 59 "java/util/NoSuchElementException" ["java/lang/RuntimeException", "java/lang/Exception"]).filter goodWord, w ∈ wsX2_remove) w h)) (by decide +kernel : ∀ w ∈ (vx_at0 RX2 59 "java/util/NoSuchElementException" ["java/lang/RuntimeException", "java/lang/Exception"]).filter (fun w => !goodWord w), w ∈ ov_NG) hG.2.2.2.2.1.2.2.use) (by decide +kernel) (hl.1.trans S.2.2.1.symm) dX2_remove_21 dX2_remove_24 dX2_remove_25 dX2_remove_28 (Nat.le_of_ble_eq_true rfl) (Nat.le_of_ble_eq_true rfl) (Nat.le_of_ble_eq_true rfl) (Nat.le_of_ble_eq_true rfl) (Nat.le_of_ble_eq_true rfl) (Nat.le_of_ble_eq_true rfl)

set_option maxHeartbeats 4000000 in
set_option maxRecDepth 100000 in
theorem c_X2_load (l : Launch) (hst : l.stackTraces = false) (G : Gx) (ad : Nat → Nat) (s0 : Nat) (f : Nat → va_E) (th : Nat → Bool) (cx : Nat → Nat) (kx vx : Nat → Nat → Int32) (px : Nat → Int) (dx : Nat → Bool) (first step n times more : Int32) (hX : RX G ad f th cx kx vx px dx) (hS : ∀ j, j < 21 → Srt (cx j) (kx j))  : xI l yX2_load wsX2_load 6 110 1 6 [.ref (ad 0), .int first, .int step, .int n, .int times, .int more] G 84 ad s0 f (fun E => E = xIA ∧ gld first step n = false) (fun r f' => OnX f f' ∧ ∃ w, w ≤ 600 ∧ n = nI w ∧ gld first step n = true ∧ r = nI (cx 0) ∧ ∃ k2 v2, RX G ad f' th (va_up cx 0 (w)) (va_up kx 0 k2) (va_up vx 0 v2) px dx ∧ ∀ z, z < w → k2 z = first + (step * (nI z)) ∧ v2 z = times * (first + (step * (nI z))) + more) := by
  refine ov_xI (cc := cX2_load) (maxL := 9) (ty := .int) hst (by decide) rfl (Nat.le_of_ble_eq_true rfl) ?_
  intro p e s m below meth c av Q S ret thx tht hG ls hl
  have S : CallFix p m c cX2_load 9 s av wsX2_load RX2 := S
  have hl : lv_has ls 9 [(0, .ref (ad 0)), (1, .int first), (2, .int step), (3, .int n), (4, .int times), (5, .int more)] := hl
  have i_X1 : ∀ w ∈ u_ws RX1 TX1 3, w ∈ wsX2_load := by decide +kernel
  have i_X2 : ∀ w ∈ u_ws RX2 TX2 5, w ∈ wsX2_load := by decide +kernel
  have kf_10 := S.2.2.2.2 (.fieldLink RX2 10 "OrderedVersions" "present" "LOrderedVersions$Table;") (by decide +kernel)
  have kf_46 := S.2.2.2.2 (.fieldLink RX2 46 "OrderedVersions$Table" "count" "I") (by decide +kernel)
  obtain ⟨hX0, ⟨g4, hX4, hg4⟩, ⟨g5, hX5, hg5⟩, ⟨g42, hX42, hg42⟩, ⟨g43, hX43, hg43⟩, hXT, hXC⟩ := id hX
  have hT0 : TB G 84 ad f 1 (cx 0) (kx 0) (vx 0) := hXT 0 (by decide)
  have hT0n := hT0.2.2.2.1
  have hS0 := hS 0 (by decide)
  refine lv_iload_n S.1 S.2.1 dX2_load_0 rfl (lv_at hl 3 rfl) ?_
  refine lv_if_lt (tgt := 16) S.1 S.2.1 dX2_load_1 (by decide) (fun c_1 => ?_) (fun c_1 => ?_)
  · skip
    exact tht "java/lang/IllegalArgumentException" ["java/lang/RuntimeException", "java/lang/Exception"] 64 66 _ _ _ _ _ _ _ hG (⟨rfl, ld_f1 c_1⟩) (by decide) (by decide) (S.2.2.2.2 (.classLink RX2 64 "java/lang/IllegalArgumentException") (by decide +kernel)) (S.2.2.2.2 (.initialized "java/lang/IllegalArgumentException") (by decide +kernel)) (vx_hat (fun w h => S.2.2.2.2 w ((by decide +kernel : ∀ w ∈ (vx_at0 RX2 66 "java/lang/IllegalArgumentException" ["java/lang/RuntimeException", "java/lang/Exception"]).filter goodWord, w ∈ wsX2_load) w h)) (by decide +kernel : ∀ w ∈ (vx_at0 RX2 66 "java/lang/IllegalArgumentException" ["java/lang/RuntimeException", "java/lang/Exception"]).filter (fun w => !goodWord w), w ∈ ov_NG) hG.2.2.2.2.1.2.2.use) (by decide +kernel) (hl.1.trans S.2.2.1.symm) dX2_load_16 dX2_load_19 dX2_load_20 dX2_load_23 (Nat.le_of_ble_eq_true rfl) (Nat.le_of_ble_eq_true rfl) (Nat.le_of_ble_eq_true rfl) (Nat.le_of_ble_eq_true rfl) (Nat.le_of_ble_eq_true rfl) (Nat.le_of_ble_eq_true rfl)
  · skip
    refine lv_iload_n S.1 S.2.1 dX2_load_4 rfl (lv_at hl 3 rfl) ?_
    refine lv_sipush (v := (nI 600)) S.1 S.2.1 dX2_load_5 (by decide) ?_
    refine lv_icmp_gt (tgt := 16) S.1 S.2.1 dX2_load_8 (by decide) (fun c_8 => ?_) (fun c_8 => ?_)
    · skip
      exact tht "java/lang/IllegalArgumentException" ["java/lang/RuntimeException", "java/lang/Exception"] 64 66 _ _ _ _ _ _ _ hG (⟨rfl, ld_f2 c_8⟩) (by decide) (by decide) (S.2.2.2.2 (.classLink RX2 64 "java/lang/IllegalArgumentException") (by decide +kernel)) (S.2.2.2.2 (.initialized "java/lang/IllegalArgumentException") (by decide +kernel)) (vx_hat (fun w h => S.2.2.2.2 w ((by decide +kernel : ∀ w ∈ (vx_at0 RX2 66 "java/lang/IllegalArgumentException" ["java/lang/RuntimeException", "java/lang/Exception"]).filter goodWord, w ∈ wsX2_load) w h)) (by decide +kernel : ∀ w ∈ (vx_at0 RX2 66 "java/lang/IllegalArgumentException" ["java/lang/RuntimeException", "java/lang/Exception"]).filter (fun w => !goodWord w), w ∈ ov_NG) hG.2.2.2.2.1.2.2.use) (by decide +kernel) (hl.1.trans S.2.2.1.symm) dX2_load_16 dX2_load_19 dX2_load_20 dX2_load_23 (Nat.le_of_ble_eq_true rfl) (Nat.le_of_ble_eq_true rfl) (Nat.le_of_ble_eq_true rfl) (Nat.le_of_ble_eq_true rfl) (Nat.le_of_ble_eq_true rfl) (Nat.le_of_ble_eq_true rfl)
    · skip
      obtain ⟨w, hw, rfl⟩ := v_ex (by decide) c_1 c_8
      refine lv_iload_n S.1 S.2.1 dX2_load_11 rfl (lv_at hl 2 rfl) ?_
      refine lv_iconst (v := (nI 1)) S.1 S.2.1 dX2_load_12 (by decide) ?_
      refine lv_icmp_ge (tgt := 24) S.1 S.2.1 dX2_load_13 (by decide) (fun c_13 => ?_) (fun c_13 => ?_)
      · skip
        refine lv_iload_n S.1 S.2.1 dX2_load_24 rfl (lv_at hl 1 rfl) ?_
        refine lv_i2l (v := first.toInt64) S.1 S.2.1 dX2_load_25 rfl ?_
        refine lv_iload_n S.1 S.2.1 dX2_load_26 rfl (lv_at hl 2 rfl) ?_
        refine lv_i2l (v := step.toInt64) S.1 S.2.1 dX2_load_27 rfl ?_
        refine lv_iload_n S.1 S.2.1 dX2_load_28 rfl (lv_at hl 3 rfl) ?_
        refine lv_iconst (v := (nI 1)) S.1 S.2.1 dX2_load_29 (by decide) ?_
        refine lv_isub S.1 S.2.1 dX2_load_30 ?_
        refine lv_i2l (v := ((nI w) - (nI 1)).toInt64) S.1 S.2.1 dX2_load_31 rfl ?_
        refine lv_lmul S.1 S.2.1 dX2_load_32 ?_
        refine lv_ladd S.1 S.2.1 dX2_load_33 ?_
        refine lv_lstore (lv' := [(6, .long (first.toInt64 + (step.toInt64 * (((nI w) - (nI 1)).toInt64)))), (0, .ref (ad 0)), (1, .int first), (2, .int step), (3, .int (nI w)), (4, .int times), (5, .int more)]) S.1 S.2.1 dX2_load_34 hl (by decide) rfl (fun ls hl => ?_)
        refine lv_lload S.1 S.2.1 dX2_load_36 (lv_at hl 0 rfl) ?_
        refine lv_ldc2 S.1 S.2.1 S.2.2.2.1 (S.2.2.2.2 (.constantLong RX2 69 (2147483647)) (by decide +kernel)) dX2_load_38 ?_
        refine W.lcmp S.1 S.2.1 dX2_load_41 ?_
        refine lv_if_le (tgt := 53) S.1 S.2.1 dX2_load_42 (by decide) (fun c_42 => ?_) (fun c_42 => ?_)
        · skip
          refine lv_aload_n S.1 S.2.1 dX2_load_53 rfl (lv_at hl 1 rfl) ?_
          refine o_get S hG i_X2 (by decide) hX0 rfl 0 (by decide) kf_10 rfl dX2_load_54 ?_
          refine o_get S hG i_X1 hT0.lt0 hT0.1 rfl 2 (by decide) kf_46 rfl dX2_load_57 ?_
          refine lv_istore (lv' := [(8, .int (nI (cx 0))), (6, .long (first.toInt64 + (step.toInt64 * (((nI w) - (nI 1)).toInt64)))), (0, .ref (ad 0)), (1, .int first), (2, .int step), (3, .int (nI w)), (4, .int times), (5, .int more)]) S.1 S.2.1 dX2_load_60 hl (by decide) rfl (fun ls hl => ?_)
          refine lv_aload_n S.1 S.2.1 dX2_load_62 rfl (lv_at hl 2 rfl) ?_
          refine o_get S hG i_X2 (by decide) hX0 rfl 0 (by decide) kf_10 rfl dX2_load_63 ?_
          refine lv_iload_n S.1 S.2.1 dX2_load_66 rfl (lv_at hl 3 rfl) ?_
          refine lv_iload_n S.1 S.2.1 dX2_load_67 rfl (lv_at hl 4 rfl) ?_
          refine lv_iload_n S.1 S.2.1 dX2_load_68 rfl (lv_at hl 5 rfl) ?_
          refine lv_iload S.1 S.2.1 dX2_load_69 (lv_at hl 6 rfl) ?_
          refine lv_iload S.1 S.2.1 dX2_load_71 (lv_at hl 7 rfl) ?_
          refine o_cVv S (rest := []) (c_X1_fill l G 84 ad s0 f 1 (cx 0) (kx 0) (vx 0) w first step times more hT0 hw) (cwV 5 S.2.2.2.2 gX2_load_X1_fill rfl rfl rfl (by decide +kernel) ⟨(Nat.le_of_ble_eq_true rfl), (Nat.le_of_ble_eq_true rfl)⟩) hG hT0.lt0 hT0.1 rfl rfl hl.1 rfl (Nat.le_of_ble_eq_true rfl) dX2_load_73 ⟨(Nat.le_of_ble_eq_true rfl), (Nat.le_of_ble_eq_true rfl)⟩ (fun f9 H locs hp hG => ?_)
          obtain ⟨k2, v2, hT9, hO9, hk9⟩ := hp
          refine lv_iload S.1 S.2.1 dX2_load_76 (lv_at hl 0 rfl) ?_
          exact ret _ _ _ _ _ _ _ _ hG ⟨hO9.x (by decide), w, hw, rfl, ld_ct hw c_13 ((lg_cmp_le _ _).mp c_42), rfl, k2, v2, hX.set (j := 0) (by decide) hT9 hO9, hk9⟩ rfl (Nat.le_of_ble_eq_true rfl) (Nat.le_of_ble_eq_true rfl) dX2_load_78
        · skip
          exact tht "java/lang/IllegalArgumentException" ["java/lang/RuntimeException", "java/lang/Exception"] 64 66 _ _ _ _ _ _ _ hG (⟨rfl, ld_cf hw (fun h => c_42 ((lg_cmp_le _ _).mpr h))⟩) (by decide) (by decide) (S.2.2.2.2 (.classLink RX2 64 "java/lang/IllegalArgumentException") (by decide +kernel)) (S.2.2.2.2 (.initialized "java/lang/IllegalArgumentException") (by decide +kernel)) (vx_hat (fun w h => S.2.2.2.2 w ((by decide +kernel : ∀ w ∈ (vx_at0 RX2 66 "java/lang/IllegalArgumentException" ["java/lang/RuntimeException", "java/lang/Exception"]).filter goodWord, w ∈ wsX2_load) w h)) (by decide +kernel : ∀ w ∈ (vx_at0 RX2 66 "java/lang/IllegalArgumentException" ["java/lang/RuntimeException", "java/lang/Exception"]).filter (fun w => !goodWord w), w ∈ ov_NG) hG.2.2.2.2.1.2.2.use) (by decide +kernel) (hl.1.trans S.2.2.1.symm) dX2_load_45 dX2_load_48 dX2_load_49 dX2_load_52 (Nat.le_of_ble_eq_true rfl) (Nat.le_of_ble_eq_true rfl) (Nat.le_of_ble_eq_true rfl) (Nat.le_of_ble_eq_true rfl) (Nat.le_of_ble_eq_true rfl) (Nat.le_of_ble_eq_true rfl)
      · skip
        exact tht "java/lang/IllegalArgumentException" ["java/lang/RuntimeException", "java/lang/Exception"] 64 66 _ _ _ _ _ _ _ hG (⟨rfl, ld_f3' c_13⟩) (by decide) (by decide) (S.2.2.2.2 (.classLink RX2 64 "java/lang/IllegalArgumentException") (by decide +kernel)) (S.2.2.2.2 (.initialized "java/lang/IllegalArgumentException") (by decide +kernel)) (vx_hat (fun w h => S.2.2.2.2 w ((by decide +kernel : ∀ w ∈ (vx_at0 RX2 66 "java/lang/IllegalArgumentException" ["java/lang/RuntimeException", "java/lang/Exception"]).filter goodWord, w ∈ wsX2_load) w h)) (by decide +kernel : ∀ w ∈ (vx_at0 RX2 66 "java/lang/IllegalArgumentException" ["java/lang/RuntimeException", "java/lang/Exception"]).filter (fun w => !goodWord w), w ∈ ov_NG) hG.2.2.2.2.1.2.2.use) (by decide +kernel) (hl.1.trans S.2.2.1.symm) dX2_load_16 dX2_load_19 dX2_load_20 dX2_load_23 (Nat.le_of_ble_eq_true rfl) (Nat.le_of_ble_eq_true rfl) (Nat.le_of_ble_eq_true rfl) (Nat.le_of_ble_eq_true rfl) (Nat.le_of_ble_eq_true rfl) (Nat.le_of_ble_eq_true rfl)

set_option maxHeartbeats 4000000 in
set_option maxRecDepth 100000 in
theorem c_X2_cut (l : Launch) (G : Gx) (ad : Nat → Nat) (s0 : Nat) (f : Nat → va_E) (th : Nat → Bool) (cx : Nat → Nat) (kx vx : Nat → Nat → Int32) (px : Nat → Int) (dx : Nat → Bool) (lo hi : Int32) (hX : RX G ad f th cx kx vx px dx) (hS : ∀ j, j < 21 → Srt (cx j) (kx j))  : mI l yX2_cut wsX2_cut 3 102 0 0 [.ref (ad 0), .int lo, .int hi] G 84 ad s0 f (fun r f' => OnX f f' ∧ r = nI ((upt (cx 0) (kx 0) hi) - (bel (cx 0) (kx 0) lo)) ∧ ∃ k2 v2, RX G ad f' th (va_up cx 0 (cx 0 - ((upt (cx 0) (kx 0) hi) - (bel (cx 0) (kx 0) lo)))) (va_up kx 0 k2) (va_up vx 0 v2) px dx ∧ ∀ i, i < cx 0 - ((upt (cx 0) (kx 0) hi) - (bel (cx 0) (kx 0) lo)) → k2 i = delF (kx 0) (bel (cx 0) (kx 0) lo) ((upt (cx 0) (kx 0) hi) - (bel (cx 0) (kx 0) lo)) i ∧ v2 i = delF (vx 0) (bel (cx 0) (kx 0) lo) ((upt (cx 0) (kx 0) hi) - (bel (cx 0) (kx 0) lo)) i) := by
  refine ov_mI (cc := cX2_cut) (maxL := 5) (ty := .int) (by decide) rfl (Nat.le_of_ble_eq_true rfl) ?_
  intro p e s m below meth c av Q S ret hG ls hl
  have S : CallFix p m c cX2_cut 5 s av wsX2_cut RX2 := S
  have hl : lv_has ls 5 [(0, .ref (ad 0)), (1, .int lo), (2, .int hi)] := hl
  have i_X2 : ∀ w ∈ u_ws RX2 TX2 5, w ∈ wsX2_cut := by decide +kernel
  have kf_10 := S.2.2.2.2 (.fieldLink RX2 10 "OrderedVersions" "present" "LOrderedVersions$Table;") (by decide +kernel)
  obtain ⟨hX0, ⟨g4, hX4, hg4⟩, ⟨g5, hX5, hg5⟩, ⟨g42, hX42, hg42⟩, ⟨g43, hX43, hg43⟩, hXT, hXC⟩ := id hX
  have hT0 : TB G 84 ad f 1 (cx 0) (kx 0) (vx 0) := hXT 0 (by decide)
  have hT0n := hT0.2.2.2.1
  have hS0 := hS 0 (by decide)
  refine lv_aload_n S.1 S.2.1 dX2_cut_0 rfl (lv_at hl 0 rfl) ?_
  refine o_get S hG i_X2 (by decide) hX0 rfl 0 (by decide) kf_10 rfl dX2_cut_1 ?_
  refine lv_iload_n S.1 S.2.1 dX2_cut_4 rfl (lv_at hl 1 rfl) ?_
  refine o_cVi S (rest := []) (c_X1_countBelow l G 84 ad s0 f 1 (cx 0) (kx 0) (vx 0) lo hT0) (cwV 1 S.2.2.2.2 gX2_cut_X1_countBelow rfl rfl rfl (by decide +kernel) ⟨(Nat.le_of_ble_eq_true rfl), (Nat.le_of_ble_eq_true rfl)⟩) hG hT0.lt0 hT0.1 rfl rfl hl.1 rfl (Nat.le_of_ble_eq_true rfl) dX2_cut_5 ⟨(Nat.le_of_ble_eq_true rfl), (Nat.le_of_ble_eq_true rfl)⟩ (fun r9 f9 H locs hp hG => ?_)
  obtain ⟨rfl, rfl⟩ := hp
  have lb_1 := bel_le (cx 0) (kx 0) lo
  refine lv_istore_n (lv' := [(3, .int (nI (bel (cx 0) (kx 0) lo))), (0, .ref (ad 0)), (1, .int lo), (2, .int hi)]) S.1 S.2.1 dX2_cut_8 rfl hl (by decide) rfl (fun ls hl => ?_)
  refine lv_aload_n S.1 S.2.1 dX2_cut_9 rfl (lv_at hl 1 rfl) ?_
  refine o_get S hG i_X2 (by decide) hX0 rfl 0 (by decide) kf_10 rfl dX2_cut_10 ?_
  refine lv_iload_n S.1 S.2.1 dX2_cut_13 rfl (lv_at hl 3 rfl) ?_
  refine o_cVi S (rest := []) (c_X1_countNotAbove l G 84 ad s0 f 1 (cx 0) (kx 0) (vx 0) hi hT0) (cwV 1 S.2.2.2.2 gX2_cut_X1_countNotAbove rfl rfl rfl (by decide +kernel) ⟨(Nat.le_of_ble_eq_true rfl), (Nat.le_of_ble_eq_true rfl)⟩) hG hT0.lt0 hT0.1 rfl rfl hl.1 rfl (Nat.le_of_ble_eq_true rfl) dX2_cut_14 ⟨(Nat.le_of_ble_eq_true rfl), (Nat.le_of_ble_eq_true rfl)⟩ (fun r9 f9 H locs hp hG => ?_)
  obtain ⟨rfl, rfl⟩ := hp
  have lb_2 := upt_le (cx 0) (kx 0) hi hT0.2.2.2.1
  refine lv_istore (lv' := [(4, .int (nI (upt (cx 0) (kx 0) hi))), (3, .int (nI (bel (cx 0) (kx 0) lo))), (0, .ref (ad 0)), (1, .int lo), (2, .int hi)]) S.1 S.2.1 dX2_cut_17 hl (by decide) rfl (fun ls hl => ?_)
  refine lv_iload_n S.1 S.2.1 dX2_cut_19 rfl (lv_at hl 1 rfl) ?_
  refine lv_iload S.1 S.2.1 dX2_cut_20 (lv_at hl 0 rfl) ?_
  refine n_lt S (a := bel (cx 0) (kx 0) lo) (b := upt (cx 0) (kx 0) hi) (tgt := 27) dX2_cut_22 (by decide) (by omega) (by omega) (fun c_22 => ?_) (fun c_22 => ?_)
  · skip
    refine lv_aload_n S.1 S.2.1 dX2_cut_27 rfl (lv_at hl 2 rfl) ?_
    refine o_get S hG i_X2 (by decide) hX0 rfl 0 (by decide) kf_10 rfl dX2_cut_28 ?_
    refine lv_iload_n S.1 S.2.1 dX2_cut_31 rfl (lv_at hl 1 rfl) ?_
    refine lv_iload S.1 S.2.1 dX2_cut_32 (lv_at hl 0 rfl) ?_
    refine o_cVv S (rest := []) (c_X1_dropBetween l G 84 ad s0 f 1 (cx 0) (kx 0) (vx 0) (bel (cx 0) (kx 0) lo) (upt (cx 0) (kx 0) hi) hT0 (by omega) (by omega)) (cwV 2 S.2.2.2.2 gX2_cut_X1_dropBetween rfl rfl rfl (by decide +kernel) ⟨(Nat.le_of_ble_eq_true rfl), (Nat.le_of_ble_eq_true rfl)⟩) hG hT0.lt0 hT0.1 rfl rfl hl.1 rfl (Nat.le_of_ble_eq_true rfl) dX2_cut_34 ⟨(Nat.le_of_ble_eq_true rfl), (Nat.le_of_ble_eq_true rfl)⟩ (fun f9 H locs hp hG => ?_)
    obtain ⟨k2, v2, hT9, hO9, hk9⟩ := hp
    refine lv_iload S.1 S.2.1 dX2_cut_37 (lv_at hl 0 rfl) ?_
    refine lv_iload_n S.1 S.2.1 dX2_cut_39 rfl (lv_at hl 1 rfl) ?_
    refine o_sub S (a := upt (cx 0) (kx 0) hi) (b := bel (cx 0) (kx 0) lo) dX2_cut_40 (by omega) ?_
    exact ret _ _ _ _ _ _ _ _ hG ⟨hO9.x (by decide), rfl, k2, v2, hX.set (j := 0) (by decide) hT9 hO9, hk9⟩ rfl (Nat.le_of_ble_eq_true rfl) (Nat.le_of_ble_eq_true rfl) dX2_cut_41
  · skip
    refine lv_iconst (v := (nI 0)) S.1 S.2.1 dX2_cut_25 (by decide) ?_
    exact ret _ _ _ _ _ _ _ _ hG ⟨OnX.rf, by rw [show ((upt (cx 0) (kx 0) hi) - (bel (cx 0) (kx 0) lo)) = 0 by omega], kx 0, vx 0, by rw [show ((upt (cx 0) (kx 0) hi) - (bel (cx 0) (kx 0) lo)) = 0 by omega, Nat.sub_zero, up_id, up_id, up_id]; exact hX, fun i _ => by rw [show ((upt (cx 0) (kx 0) hi) - (bel (cx 0) (kx 0) lo)) = 0 by omega, delF_0, delF_0]; exact ⟨rfl, rfl⟩⟩ rfl (Nat.le_of_ble_eq_true rfl) (Nat.le_of_ble_eq_true rfl) dX2_cut_26

set_option maxHeartbeats 4000000 in
set_option maxRecDepth 100000 in
theorem c_X2_merge (l : Launch) (hst : l.stackTraces = false) (G : Gx) (ad : Nat → Nat) (s0 : Nat) (f : Nat → va_E) (th : Nat → Bool) (cx : Nat → Nat) (kx vx : Nat → Nat → Int32) (px : Nat → Int) (dx : Nat → Bool) (v : Int32) (hX : RX G ad f th cx kx vx px dx) (hS : ∀ j, j < 21 → Srt (cx j) (kx j))  : xI l yX2_merge wsX2_merge 7 131 2 12 [.ref (ad 0), .int v] G 84 ad s0 f (fun E => (E = xIO ∧ isv th v = false) ∨ (E = xUO ∧ ∃ j, j ≤ 12 ∧ v = nI j ∧ th j = true ∧ 600 < cx 0 + cnt (cx j) (fun z => !hs (cx 0) (kx 0) (kx j z)))) (fun r f' => OnX f f' ∧ ∃ j, j ≤ 12 ∧ v = nI j ∧ th j = true ∧ cx 0 + cnt (cx j) (fun z => !hs (cx 0) (kx 0) (kx j z)) ≤ 600 ∧ r = nI (cnt (cx j) (fun z => !hs (cx 0) (kx 0) (kx j z))) ∧ ∃ k2 v2, RX G ad f' th (va_up cx 0 (cx 0 + cnt (cx j) (fun z => !hs (cx 0) (kx 0) (kx j z)))) (va_up kx 0 k2) (va_up vx 0 v2) px dx ∧ Srt (cx 0 + cnt (cx j) (fun z => !hs (cx 0) (kx 0) (kx j z))) k2 ∧ ∀ x y, Has (cx 0 + cnt (cx j) (fun z => !hs (cx 0) (kx 0) (kx j z))) k2 v2 x y ↔ Has (cx 0) (kx 0) (vx 0) x y ∨ (hs (cx 0) (kx 0) x = false ∧ Has (cx j) (kx j) (vx j) x y)) := by
  refine ov_xI (cc := cX2_merge) (maxL := 4) (ty := .int) hst (by decide) rfl (Nat.le_of_ble_eq_true rfl) ?_
  intro p e s m below meth c av Q S ret thx tht hG ls hl
  have S : CallFix p m c cX2_merge 4 s av wsX2_merge RX2 := S
  have hl : lv_has ls 4 [(0, .ref (ad 0)), (1, .int v)] := hl
  have i_X1 : ∀ w ∈ u_ws RX1 TX1 3, w ∈ wsX2_merge := by decide +kernel
  have i_X2 : ∀ w ∈ u_ws RX2 TX2 5, w ∈ wsX2_merge := by decide +kernel
  have kf_10 := S.2.2.2.2 (.fieldLink RX2 10 "OrderedVersions" "present" "LOrderedVersions$Table;") (by decide +kernel)
  have kf_46 := S.2.2.2.2 (.fieldLink RX2 46 "OrderedVersions$Table" "count" "I") (by decide +kernel)
  obtain ⟨hX0, ⟨g4, hX4, hg4⟩, ⟨g5, hX5, hg5⟩, ⟨g42, hX42, hg42⟩, ⟨g43, hX43, hg43⟩, hXT, hXC⟩ := id hX
  have hT0 : TB G 84 ad f 1 (cx 0) (kx 0) (vx 0) := hXT 0 (by decide)
  have hT0n := hT0.2.2.2.1
  have hS0 := hS 0 (by decide)
  refine lv_aload_n S.1 S.2.1 dX2_merge_0 rfl (lv_at hl 0 rfl) ?_
  refine lv_iload_n S.1 S.2.1 dX2_merge_1 rfl (lv_at hl 1 rfl) ?_
  refine o_xVr S (rest := []) (c_X2_mapOf l hst G ad s0 f th cx kx vx px dx v hX hS ) (cwV 1 S.2.2.2.2 gX2_merge_X2_mapOf rfl rfl rfl (by decide +kernel) ⟨(Nat.le_of_ble_eq_true rfl), (Nat.le_of_ble_eq_true rfl)⟩) hG (by decide) hX0 rfl rfl hl.1 rfl (Nat.le_of_ble_eq_true rfl) dX2_merge_2 ⟨(Nat.le_of_ble_eq_true rfl), (Nat.le_of_ble_eq_true rfl)⟩ (fun E ce q9 H locs hE hG h1 h2 h3 => thx E ce q9 _ _ _ _ _ _ _ hG (Or.inl hE) h1 h2 h3 (Nat.le_of_ble_eq_true rfl) (Nat.le_of_ble_eq_true rfl)) (fun r9 f9 H locs hp hG => ?_)
  obtain ⟨rfl, j, hj2, rfl, hj3, rfl⟩ := hp
  have hTj := hXT j (by omega)
  have hTjn := hTj.2.2.2.1
  have hSj := hS j (by omega)
  have htj := tc_v hj2
  refine lv_astore_n (lv' := [(2, .ref (ad (tc j))), (0, .ref (ad 0)), (1, .int (nI j))]) S.1 S.2.1 dX2_merge_5 rfl hl (by decide) rfl (fun ls hl => ?_)
  refine lv_aload_n S.1 S.2.1 dX2_merge_6 rfl (lv_at hl 0 rfl) ?_
  refine o_get S hG i_X1 hTj.lt0 hTj.1 rfl 2 (by decide) kf_46 rfl dX2_merge_7 ?_
  refine lv_aload_n S.1 S.2.1 dX2_merge_10 rfl (lv_at hl 0 rfl) ?_
  refine lv_aload_n S.1 S.2.1 dX2_merge_11 rfl (lv_at hl 1 rfl) ?_
  refine o_get S hG i_X2 (by decide) hX0 rfl 0 (by decide) kf_10 rfl dX2_merge_12 ?_
  refine lv_iconst (v := (nI 0)) S.1 S.2.1 dX2_merge_15 (by decide) ?_
  refine o_cVi S (rest := [.int (nI (cx j))]) (c_X1_countShared l G 84 ad s0 f (tc j) (cx j) (kx j) (vx j) 1 (cx 0) (kx 0) (vx 0) false hTj hT0 hSj) (cwV 2 S.2.2.2.2 gX2_merge_X1_countShared rfl rfl rfl (by decide +kernel) ⟨(Nat.le_of_ble_eq_true rfl), (Nat.le_of_ble_eq_true rfl)⟩) hG hTj.lt0 hTj.1 rfl rfl hl.1 rfl (Nat.le_of_ble_eq_true rfl) dX2_merge_16 ⟨(Nat.le_of_ble_eq_true rfl), (Nat.le_of_ble_eq_true rfl)⟩ (fun r9 f9 H locs hp hG => ?_)
  obtain ⟨rfl, rfl⟩ := hp
  refine o_sub S (a := cx j) (b := cnt (cx j) (sh (cx 0) (kx 0) (vx 0) false (kx j) (vx j))) dX2_merge_19 (cnt_le _ _) ?_
  refine o_top (congrArg nI sh_miss) ?_
  refine lv_istore_n (lv' := [(3, .int (nI (cnt (cx j) (fun z => !hs (cx 0) (kx 0) (kx j z))))), (2, .ref (ad (tc j))), (0, .ref (ad 0)), (1, .int (nI j))]) S.1 S.2.1 dX2_merge_20 rfl hl (by decide) rfl (fun ls hl => ?_)
  have hQl := cnt_le (cx j) (fun z => !hs (cx 0) (kx 0) (kx j z))
  refine lv_aload_n S.1 S.2.1 dX2_merge_21 rfl (lv_at hl 2 rfl) ?_
  refine o_get S hG i_X2 (by decide) hX0 rfl 0 (by decide) kf_10 rfl dX2_merge_22 ?_
  refine o_get S hG i_X1 hT0.lt0 hT0.1 rfl 2 (by decide) kf_46 rfl dX2_merge_25 ?_
  refine lv_iload_n S.1 S.2.1 dX2_merge_28 rfl (lv_at hl 0 rfl) ?_
  refine o_add S (a := cx 0) (b := cnt (cx j) (fun z => !hs (cx 0) (kx 0) (kx j z))) dX2_merge_29 ?_
  refine lv_sipush (v := (nI 600)) S.1 S.2.1 dX2_merge_30 (by decide) ?_
  refine n_le S (a := (cx 0) + (cnt (cx j) (fun z => !hs (cx 0) (kx 0) (kx j z)))) (b := 600) (tgt := 44) dX2_merge_33 (by decide) (by omega) (by omega) (fun c_33 => ?_) (fun c_33 => ?_)
  · skip
    rcases Nat.eq_zero_or_pos j with h0 | h0
    · skip
      subst h0
      have hQ0 := cnt_self hS0
      rw [hQ0] at hl
      have hl : lv_has ls 4 [(3, .int (nI 0)), (2, .ref (ad 1)), (0, .ref (ad 0)), (1, .int (nI 0))] := hl
      refine lv_aload_n S.1 S.2.1 dX2_merge_44 rfl (lv_at hl 2 rfl) ?_
      refine o_get S hG i_X2 (by decide) hX0 rfl 0 (by decide) kf_10 rfl dX2_merge_45 ?_
      refine lv_aload_n S.1 S.2.1 dX2_merge_48 rfl (lv_at hl 1 rfl) ?_
      refine lv_iload_n S.1 S.2.1 dX2_merge_49 rfl (lv_at hl 0 rfl) ?_
      refine o_cVv S (rest := []) (c_X1_takeOver_self l G 84 ad s0 f 1 (cx 0) (kx 0) (vx 0) hT0 hS0) (cwV 2 S.2.2.2.2 gX2_merge_X1_takeOver rfl rfl rfl (by decide +kernel) ⟨(Nat.le_of_ble_eq_true rfl), (Nat.le_of_ble_eq_true rfl)⟩) hG hT0.lt0 hT0.1 rfl rfl hl.1 rfl (Nat.le_of_ble_eq_true rfl) dX2_merge_50 ⟨(Nat.le_of_ble_eq_true rfl), (Nat.le_of_ble_eq_true rfl)⟩ (fun f9 H locs hp hG => ?_)
      obtain ⟨hT9, hO9⟩ := hp
      refine lv_iload_n S.1 S.2.1 dX2_merge_53 rfl (lv_at hl 0 rfl) ?_
      exact ret _ _ _ _ _ _ _ _ hG ⟨hO9.x (by decide), 0, by decide, rfl, hj3, by omega, by rw [hQ0], kx 0, vx 0, by rw [hQ0, Nat.add_zero, up_id, up_id, up_id]; have h9 := hX.set (j := 0) (by decide) hT9 hO9; rw [up_id, up_id, up_id] at h9; exact h9, by rw [hQ0]; exact hS0, fun x y => by rw [hQ0]; exact MG9_z hQ0 x y⟩ rfl (Nat.le_of_ble_eq_true rfl) (Nat.le_of_ble_eq_true rfl) dX2_merge_54
    · skip
      refine lv_aload_n S.1 S.2.1 dX2_merge_44 rfl (lv_at hl 2 rfl) ?_
      refine o_get S hG i_X2 (by decide) hX0 rfl 0 (by decide) kf_10 rfl dX2_merge_45 ?_
      refine lv_aload_n S.1 S.2.1 dX2_merge_48 rfl (lv_at hl 1 rfl) ?_
      refine lv_iload_n S.1 S.2.1 dX2_merge_49 rfl (lv_at hl 0 rfl) ?_
      refine o_cVv S (rest := []) (c_X1_takeOver l G 84 ad s0 f 1 (cx 0) (kx 0) (vx 0) (tc j) (cx j) (kx j) (vx j) (cnt (cx j) (fun z => !hs (cx 0) (kx 0) (kx j z))) hT0 hTj (by omega) hS0 hSj rfl (by omega)) (cwV 2 S.2.2.2.2 gX2_merge_X1_takeOver rfl rfl rfl (by decide +kernel) ⟨(Nat.le_of_ble_eq_true rfl), (Nat.le_of_ble_eq_true rfl)⟩) hG hT0.lt0 hT0.1 rfl rfl hl.1 rfl (Nat.le_of_ble_eq_true rfl) dX2_merge_50 ⟨(Nat.le_of_ble_eq_true rfl), (Nat.le_of_ble_eq_true rfl)⟩ (fun f9 H locs hp hG => ?_)
      obtain ⟨k2, v2, hT9, hO9, hk9⟩ := hp
      refine lv_iload_n S.1 S.2.1 dX2_merge_53 rfl (lv_at hl 0 rfl) ?_
      exact ret _ _ _ _ _ _ _ _ hG ⟨hO9.x (by decide), j, hj2, rfl, hj3, by omega, rfl, k2, v2, hX.set (j := 0) (by decide) hT9 hO9, hk9⟩ rfl (Nat.le_of_ble_eq_true rfl) (Nat.le_of_ble_eq_true rfl) dX2_merge_54
  · skip
    exact tht "java/lang/UnsupportedOperationException" ["java/lang/RuntimeException", "java/lang/Exception"] 50 52 _ _ _ _ _ _ _ hG (Or.inr ⟨rfl, j, hj2, rfl, hj3, by omega⟩) (by decide) (by decide) (S.2.2.2.2 (.classLink RX2 50 "java/lang/UnsupportedOperationException") (by decide +kernel)) (S.2.2.2.2 (.initialized "java/lang/UnsupportedOperationException") (by decide +kernel)) (vx_hat (fun w h => S.2.2.2.2 w ((by decide +kernel : ∀ w ∈ (vx_at0 RX2 52 "java/lang/UnsupportedOperationException" ["java/lang/RuntimeException", "java/lang/Exception"]).filter goodWord, w ∈ wsX2_merge) w h)) (by decide +kernel : ∀ w ∈ (vx_at0 RX2 52 "java/lang/UnsupportedOperationException" ["java/lang/RuntimeException", "java/lang/Exception"]).filter (fun w => !goodWord w), w ∈ ov_NG) hG.2.2.2.2.1.2.2.use) (by decide +kernel) (hl.1.trans S.2.2.1.symm) dX2_merge_36 dX2_merge_39 dX2_merge_40 dX2_merge_43 (Nat.le_of_ble_eq_true rfl) (Nat.le_of_ble_eq_true rfl) (Nat.le_of_ble_eq_true rfl) (Nat.le_of_ble_eq_true rfl) (Nat.le_of_ble_eq_true rfl) (Nat.le_of_ble_eq_true rfl)

set_option maxHeartbeats 4000000 in
set_option maxRecDepth 100000 in
theorem c_X2_snapshot (l : Launch) (hst : l.stackTraces = false) (G : Gx) (ad : Nat → Nat) (s0 : Nat) (f : Nat → va_E) (th : Nat → Bool) (cx : Nat → Nat) (kx vx : Nat → Nat → Int32) (px : Nat → Int) (dx : Nat → Bool)  (hX : RX G ad f th cx kx vx px dx) (hS : ∀ j, j < 21 → Srt (cx j) (kx j))  : xI l yX2_snapshot wsX2_snapshot 6 110 1 6 [.ref (ad 0)] G 84 ad s0 f (fun E => E = xUO ∧ ∀ z, 1 ≤ z → z ≤ 12 → th z = true) (fun r f' => OnX f f' ∧ ∃ i, 1 ≤ i ∧ i ≤ 12 ∧ th i = false ∧ (∀ z, 1 ≤ z → z < i → th z = true) ∧ r = nI i ∧ ∃ k3 v3, RX G ad f' (va_up th i true) (va_up cx i (cx 0)) (va_up kx i k3) (va_up vx i v3) px dx ∧ ∀ z, z < cx 0 → k3 z = kx 0 z ∧ v3 z = vx 0 z) := by
  refine ov_xI (cc := cX2_snapshot) (maxL := 2) (ty := .int) hst (by decide) rfl (Nat.le_of_ble_eq_true rfl) ?_
  intro p e s m below meth c av Q S ret thx tht hG ls hl
  have S : CallFix p m c cX2_snapshot 2 s av wsX2_snapshot RX2 := S
  have hl : lv_has ls 2 [(0, .ref (ad 0))] := hl
  have i_X2 : ∀ w ∈ u_ws RX2 TX2 5, w ∈ wsX2_snapshot := by decide +kernel
  have kf_10 := S.2.2.2.2 (.fieldLink RX2 10 "OrderedVersions" "present" "LOrderedVersions$Table;") (by decide +kernel)
  have kf_16 := S.2.2.2.2 (.fieldLink RX2 16 "OrderedVersions" "versions" "[LOrderedVersions$Table;") (by decide +kernel)
  have kf_20 := S.2.2.2.2 (.fieldLink RX2 20 "OrderedVersions" "versionTaken" "[Z") (by decide +kernel)
  obtain ⟨hX0, ⟨g4, hX4, hg4⟩, ⟨g5, hX5, hg5⟩, ⟨g42, hX42, hg42⟩, ⟨g43, hX43, hg43⟩, hXT, hXC⟩ := id hX
  have hT0 : TB G 84 ad f 1 (cx 0) (kx 0) (vx 0) := hXT 0 (by decide)
  have hT0n := hT0.2.2.2.1
  have hS0 := hS 0 (by decide)
  refine lv_aload_n S.1 S.2.1 dX2_snapshot_0 rfl (lv_at hl 0 rfl) ?_
  refine o_get S hG i_X2 (by decide) hX0 rfl 2 (by decide) kf_20 rfl dX2_snapshot_1 ?_
  refine lv_iconst (v := (nI 1)) S.1 S.2.1 dX2_snapshot_4 (by decide) ?_
  refine o_cSi S (rest := []) (c_X2_leastFree l G ad s0 f 5 13 g5 th 1 (by decide) hX5 (by decide) hg5 (by decide)) (va_cwS 2 S.2.2.2.2 gX2_snapshot_X2_leastFree rfl rfl rfl (by decide +kernel) ⟨(Nat.le_of_ble_eq_true rfl), (Nat.le_of_ble_eq_true rfl)⟩) hG rfl hl.1 rfl (Nat.le_of_ble_eq_true rfl) dX2_snapshot_5 ⟨(Nat.le_of_ble_eq_true rfl), (Nat.le_of_ble_eq_true rfl)⟩ (fun r9 f9 H locs hp hG => ?_)
  obtain ⟨rfl, i, rfl, hi1, hi2, hi3, hi4⟩ := hp
  refine lv_istore_n (lv' := [(1, .int (nI i)), (0, .ref (ad 0))]) S.1 S.2.1 dX2_snapshot_8 rfl hl (by decide) rfl (fun ls hl => ?_)
  refine lv_iload_n S.1 S.2.1 dX2_snapshot_9 rfl (lv_at hl 0 rfl) ?_
  refine lv_aload_n S.1 S.2.1 dX2_snapshot_10 rfl (lv_at hl 1 rfl) ?_
  refine o_get S hG i_X2 (by decide) hX0 rfl 2 (by decide) kf_20 rfl dX2_snapshot_11 ?_
  refine o_alen S hG 1 (by decide) hX5 rfl dX2_snapshot_14 ?_
  refine n_ne S (a := i) (b := 13) (tgt := 26) dX2_snapshot_15 (by decide) (by omega) (by omega) (fun c_15 => ?_) (fun c_15 => ?_)
  · skip
    refine lv_aload_n S.1 S.2.1 dX2_snapshot_26 rfl (lv_at hl 1 rfl) ?_
    refine o_get S hG i_X2 (by decide) hX0 rfl 1 (by decide) kf_16 rfl dX2_snapshot_27 ?_
    refine lv_iload_n S.1 S.2.1 dX2_snapshot_30 rfl (lv_at hl 0 rfl) ?_
    refine o_Tald S hG (j := i) (by decide) hX4 (by omega) (hg4 i (by omega)) dX2_snapshot_31 (kk := ?_)
    have hTi := hXT i (by omega)
    have hti := tc_v (show i ≤ 12 by omega)
    refine lv_aload_n S.1 S.2.1 dX2_snapshot_32 rfl (lv_at hl 1 rfl) ?_
    refine o_get S hG i_X2 (by decide) hX0 rfl 0 (by decide) kf_10 rfl dX2_snapshot_33 ?_
    refine o_cVv S (rest := []) (c_X1_copyFrom l G 84 ad s0 f (tc i) (cx i) (kx i) (vx i) 1 (cx 0) (kx 0) (vx 0) hTi hT0 (by omega)) (cwV 1 S.2.2.2.2 gX2_snapshot_X1_copyFrom rfl rfl rfl (by decide +kernel) ⟨(Nat.le_of_ble_eq_true rfl), (Nat.le_of_ble_eq_true rfl)⟩) hG hTi.lt0 hTi.1 rfl rfl hl.1 rfl (Nat.le_of_ble_eq_true rfl) dX2_snapshot_36 ⟨(Nat.le_of_ble_eq_true rfl), (Nat.le_of_ble_eq_true rfl)⟩ (fun f9 H locs hp hG => ?_)
    obtain ⟨k3, v3, hT9, hO9, hk9⟩ := hp
    have hX := hX.set (j := i) (by omega) hT9 hO9
    have hOX := hO9.x (by omega)
    obtain ⟨hX0, ⟨g4, hX4, hg4⟩, ⟨g5, hX5, hg5⟩, ⟨g42, hX42, hg42⟩, ⟨g43, hX43, hg43⟩, hXT, hXC⟩ := id hX
    refine lv_aload_n S.1 S.2.1 dX2_snapshot_39 rfl (lv_at hl 1 rfl) ?_
    refine o_get S hG i_X2 (by decide) hX0 rfl 2 (by decide) kf_20 rfl dX2_snapshot_40 ?_
    refine lv_iload_n S.1 S.2.1 dX2_snapshot_43 rfl (lv_at hl 0 rfl) ?_
    refine lv_iconst (v := (nI 1)) S.1 S.2.1 dX2_snapshot_44 (by decide) ?_
    refine o_zast S hG (j := i) (by decide) hX5 (by omega) rfl dX2_snapshot_45 (kk := fun H locs hG => ?_)
    obtain ⟨f_1, ef_1, hG⟩ := ov_name hG
    have hX := hX.set5 (b := true) hX5 (by omega) ef_1
    have hOX := hOX.up ef_1 (by decide)
    obtain ⟨hX0, ⟨g4, hX4, hg4⟩, ⟨g5, hX5, hg5⟩, ⟨g42, hX42, hg42⟩, ⟨g43, hX43, hg43⟩, hXT, hXC⟩ := id hX
    refine lv_iload_n S.1 S.2.1 dX2_snapshot_46 rfl (lv_at hl 0 rfl) ?_
    exact ret _ _ _ _ _ _ _ _ hG ⟨hOX, i, hi1, by omega, hi4 (by omega), hi3, rfl, k3, v3, hX, hk9⟩ rfl (Nat.le_of_ble_eq_true rfl) (Nat.le_of_ble_eq_true rfl) dX2_snapshot_47
  · skip
    exact tht "java/lang/UnsupportedOperationException" ["java/lang/RuntimeException", "java/lang/Exception"] 50 52 _ _ _ _ _ _ _ hG (⟨rfl, fun z h1 h2 => hi3 z h1 (by omega)⟩) (by decide) (by decide) (S.2.2.2.2 (.classLink RX2 50 "java/lang/UnsupportedOperationException") (by decide +kernel)) (S.2.2.2.2 (.initialized "java/lang/UnsupportedOperationException") (by decide +kernel)) (vx_hat (fun w h => S.2.2.2.2 w ((by decide +kernel : ∀ w ∈ (vx_at0 RX2 52 "java/lang/UnsupportedOperationException" ["java/lang/RuntimeException", "java/lang/Exception"]).filter goodWord, w ∈ wsX2_snapshot) w h)) (by decide +kernel : ∀ w ∈ (vx_at0 RX2 52 "java/lang/UnsupportedOperationException" ["java/lang/RuntimeException", "java/lang/Exception"]).filter (fun w => !goodWord w), w ∈ ov_NG) hG.2.2.2.2.1.2.2.use) (by decide +kernel) (hl.1.trans S.2.2.1.symm) dX2_snapshot_18 dX2_snapshot_21 dX2_snapshot_22 dX2_snapshot_25 (Nat.le_of_ble_eq_true rfl) (Nat.le_of_ble_eq_true rfl) (Nat.le_of_ble_eq_true rfl) (Nat.le_of_ble_eq_true rfl) (Nat.le_of_ble_eq_true rfl) (Nat.le_of_ble_eq_true rfl)

set_option maxHeartbeats 4000000 in
set_option maxRecDepth 100000 in
theorem c_X2_release (l : Launch) (hst : l.stackTraces = false) (G : Gx) (ad : Nat → Nat) (s0 : Nat) (f : Nat → va_E) (th : Nat → Bool) (cx : Nat → Nat) (kx vx : Nat → Nat → Int32) (px : Nat → Int) (dx : Nat → Bool) (v : Int32) (hX : RX G ad f th cx kx vx px dx) (hS : ∀ j, j < 21 → Srt (cx j) (kx j))  : xI l yX2_release wsX2_release 8 152 2 12 [.ref (ad 0), .int v] G 84 ad s0 f (fun E => E = xIO ∧ iss th v = false) (fun r f' => OnX f f' ∧ ∃ j, 1 ≤ j ∧ j ≤ 12 ∧ v = nI j ∧ th j = true ∧ r = nI (cnt (13 - 1) (fun z => va_up th j false (1 + z))) ∧ RX G ad f' (va_up th j false) (va_up cx j 0) kx vx px dx) := by
  refine ov_xI (cc := cX2_release) (maxL := 2) (ty := .int) hst (by decide) rfl (Nat.le_of_ble_eq_true rfl) ?_
  intro p e s m below meth c av Q S ret thx tht hG ls hl
  have S : CallFix p m c cX2_release 2 s av wsX2_release RX2 := S
  have hl : lv_has ls 2 [(0, .ref (ad 0)), (1, .int v)] := hl
  have i_X1 : ∀ w ∈ u_ws RX1 TX1 3, w ∈ wsX2_release := by decide +kernel
  have i_X2 : ∀ w ∈ u_ws RX2 TX2 5, w ∈ wsX2_release := by decide +kernel
  have kf_20 := S.2.2.2.2 (.fieldLink RX2 20 "OrderedVersions" "versionTaken" "[Z") (by decide +kernel)
  have kf_46 := S.2.2.2.2 (.fieldLink RX2 46 "OrderedVersions$Table" "count" "I") (by decide +kernel)
  obtain ⟨hX0, ⟨g4, hX4, hg4⟩, ⟨g5, hX5, hg5⟩, ⟨g42, hX42, hg42⟩, ⟨g43, hX43, hg43⟩, hXT, hXC⟩ := id hX
  have hT0 : TB G 84 ad f 1 (cx 0) (kx 0) (vx 0) := hXT 0 (by decide)
  have hT0n := hT0.2.2.2.1
  have hS0 := hS 0 (by decide)
  refine lv_aload_n S.1 S.2.1 dX2_release_0 rfl (lv_at hl 0 rfl) ?_
  refine lv_iload_n S.1 S.2.1 dX2_release_1 rfl (lv_at hl 1 rfl) ?_
  refine o_xVr S (rest := []) (c_X2_snapshotOf l hst G ad s0 f th cx kx vx px dx v hX hS ) (cwV 1 S.2.2.2.2 gX2_release_X2_snapshotOf rfl rfl rfl (by decide +kernel) ⟨(Nat.le_of_ble_eq_true rfl), (Nat.le_of_ble_eq_true rfl)⟩) hG (by decide) hX0 rfl rfl hl.1 rfl (Nat.le_of_ble_eq_true rfl) dX2_release_2 ⟨(Nat.le_of_ble_eq_true rfl), (Nat.le_of_ble_eq_true rfl)⟩ (fun E ce q9 H locs hE hG h1 h2 h3 => thx E ce q9 _ _ _ _ _ _ _ hG (hE) h1 h2 h3 (Nat.le_of_ble_eq_true rfl) (Nat.le_of_ble_eq_true rfl)) (fun r9 f9 H locs hp hG => ?_)
  obtain ⟨rfl, j, hj1, hj2, rfl, hj3, rfl⟩ := hp
  have hTj := hXT j (by omega)
  have hTjn := hTj.2.2.2.1
  have htj := tc_v hj2
  refine lv_iconst (v := (nI 0)) S.1 S.2.1 dX2_release_5 (by decide) ?_
  refine o_put S hG i_X1 tyX1_ok nmX1 hTj.lt0 hTj.1 rfl 2 (by decide) kf_46 rfl rfl rfl (Nat.le_of_ble_eq_true rfl) dX2_release_6 (fun H locs hG => ?_)
  obtain ⟨f_1, ef_1, hG⟩ := ov_name hG
  have hT0 := hT0.ne ef_1 (by omega) (by omega) (by omega)
  have hTj := hTj.upn ef_1 (n2 := 0) (by omega)
  have hX := hX.set (j := j) (by omega) hTj (Onl.one ef_1 (by omega))
  rw [up_id, up_id] at hX
  have hOX : OnX f f_1 := (Onl.one (t := tc j) ef_1 (by omega)).x (by omega)
  obtain ⟨hX0, ⟨g4, hX4, hg4⟩, ⟨g5, hX5, hg5⟩, ⟨g42, hX42, hg42⟩, ⟨g43, hX43, hg43⟩, hXT, hXC⟩ := id hX
  refine lv_aload_n S.1 S.2.1 dX2_release_9 rfl (lv_at hl 0 rfl) ?_
  refine o_get S hG i_X2 (by decide) hX0 rfl 2 (by decide) kf_20 rfl dX2_release_10 ?_
  refine lv_iload_n S.1 S.2.1 dX2_release_13 rfl (lv_at hl 1 rfl) ?_
  refine lv_iconst (v := (nI 0)) S.1 S.2.1 dX2_release_14 (by decide) ?_
  refine o_zast S hG (j := j) (by decide) hX5 (by omega) rfl dX2_release_15 (kk := fun H locs hG => ?_)
  obtain ⟨f_2, ef_2, hG⟩ := ov_name hG
  have hX := hX.set5 (b := false) hX5 (by omega) ef_2
  have hOX := hOX.up ef_2 (by decide)
  obtain ⟨hX0, ⟨g4, hX4, hg4⟩, ⟨g5, hX5, hg5⟩, ⟨g42, hX42, hg42⟩, ⟨g43, hX43, hg43⟩, hXT, hXC⟩ := id hX
  refine lv_aload_n S.1 S.2.1 dX2_release_16 rfl (lv_at hl 0 rfl) ?_
  refine o_get S hG i_X2 (by decide) hX0 rfl 2 (by decide) kf_20 rfl dX2_release_17 ?_
  refine lv_iconst (v := (nI 1)) S.1 S.2.1 dX2_release_20 (by decide) ?_
  refine o_cSi S (rest := []) (c_X2_countTaken l G ad s0 f_2 5 13 g5 (va_up th j false) 1 (by decide) hX5 (by decide) hg5 (by decide)) (va_cwS 2 S.2.2.2.2 gX2_release_X2_countTaken rfl rfl rfl (by decide +kernel) ⟨(Nat.le_of_ble_eq_true rfl), (Nat.le_of_ble_eq_true rfl)⟩) hG rfl hl.1 rfl (Nat.le_of_ble_eq_true rfl) dX2_release_21 ⟨(Nat.le_of_ble_eq_true rfl), (Nat.le_of_ble_eq_true rfl)⟩ (fun r9 f9 H locs hp hG => ?_)
  obtain ⟨rfl, rfl⟩ := hp
  exact ret _ _ _ _ _ _ _ _ hG ⟨hOX, j, hj1, hj2, rfl, hj3, rfl, hX⟩ rfl (Nat.le_of_ble_eq_true rfl) (Nat.le_of_ble_eq_true rfl) dX2_release_24

set_option maxHeartbeats 4000000 in
set_option maxRecDepth 100000 in
theorem c_X2_restore (l : Launch) (hst : l.stackTraces = false) (G : Gx) (ad : Nat → Nat) (s0 : Nat) (f : Nat → va_E) (th : Nat → Bool) (cx : Nat → Nat) (kx vx : Nat → Nat → Int32) (px : Nat → Int) (dx : Nat → Bool) (v : Int32) (hX : RX G ad f th cx kx vx px dx) (hS : ∀ j, j < 21 → Srt (cx j) (kx j))  : xI l yX2_restore wsX2_restore 8 152 2 12 [.ref (ad 0), .int v] G 84 ad s0 f (fun E => E = xIO ∧ iss th v = false) (fun r f' => OnX f f' ∧ ∃ j, 1 ≤ j ∧ j ≤ 12 ∧ v = nI j ∧ th j = true ∧ r = nI (cx j) ∧ ∃ k3 v3, RX G ad f' th (va_up cx 0 (cx j)) (va_up kx 0 k3) (va_up vx 0 v3) px dx ∧ ∀ z, z < cx j → k3 z = kx j z ∧ v3 z = vx j z) := by
  refine ov_xI (cc := cX2_restore) (maxL := 2) (ty := .int) hst (by decide) rfl (Nat.le_of_ble_eq_true rfl) ?_
  intro p e s m below meth c av Q S ret thx tht hG ls hl
  have S : CallFix p m c cX2_restore 2 s av wsX2_restore RX2 := S
  have hl : lv_has ls 2 [(0, .ref (ad 0)), (1, .int v)] := hl
  have i_X1 : ∀ w ∈ u_ws RX1 TX1 3, w ∈ wsX2_restore := by decide +kernel
  have i_X2 : ∀ w ∈ u_ws RX2 TX2 5, w ∈ wsX2_restore := by decide +kernel
  have kf_10 := S.2.2.2.2 (.fieldLink RX2 10 "OrderedVersions" "present" "LOrderedVersions$Table;") (by decide +kernel)
  have kf_46 := S.2.2.2.2 (.fieldLink RX2 46 "OrderedVersions$Table" "count" "I") (by decide +kernel)
  obtain ⟨hX0, ⟨g4, hX4, hg4⟩, ⟨g5, hX5, hg5⟩, ⟨g42, hX42, hg42⟩, ⟨g43, hX43, hg43⟩, hXT, hXC⟩ := id hX
  have hT0 : TB G 84 ad f 1 (cx 0) (kx 0) (vx 0) := hXT 0 (by decide)
  have hT0n := hT0.2.2.2.1
  have hS0 := hS 0 (by decide)
  refine lv_aload_n S.1 S.2.1 dX2_restore_0 rfl (lv_at hl 0 rfl) ?_
  refine o_get S hG i_X2 (by decide) hX0 rfl 0 (by decide) kf_10 rfl dX2_restore_1 ?_
  refine lv_aload_n S.1 S.2.1 dX2_restore_4 rfl (lv_at hl 0 rfl) ?_
  refine lv_iload_n S.1 S.2.1 dX2_restore_5 rfl (lv_at hl 1 rfl) ?_
  refine o_xVr S (rest := [.ref (ad 1)]) (c_X2_snapshotOf l hst G ad s0 f th cx kx vx px dx v hX hS ) (cwV 1 S.2.2.2.2 gX2_restore_X2_snapshotOf rfl rfl rfl (by decide +kernel) ⟨(Nat.le_of_ble_eq_true rfl), (Nat.le_of_ble_eq_true rfl)⟩) hG (by decide) hX0 rfl rfl hl.1 rfl (Nat.le_of_ble_eq_true rfl) dX2_restore_6 ⟨(Nat.le_of_ble_eq_true rfl), (Nat.le_of_ble_eq_true rfl)⟩ (fun E ce q9 H locs hE hG h1 h2 h3 => thx E ce q9 _ _ _ _ _ _ _ hG (hE) h1 h2 h3 (Nat.le_of_ble_eq_true rfl) (Nat.le_of_ble_eq_true rfl)) (fun r9 f9 H locs hp hG => ?_)
  obtain ⟨rfl, j, hj1, hj2, rfl, hj3, rfl⟩ := hp
  have hTj := hXT j (by omega)
  have hTjn := hTj.2.2.2.1
  have htj := tc_v hj2
  refine o_cVv S (rest := []) (c_X1_copyFrom l G 84 ad s0 f 1 (cx 0) (kx 0) (vx 0) (tc j) (cx j) (kx j) (vx j) hT0 hTj (by omega)) (cwV 1 S.2.2.2.2 gX2_restore_X1_copyFrom rfl rfl rfl (by decide +kernel) ⟨(Nat.le_of_ble_eq_true rfl), (Nat.le_of_ble_eq_true rfl)⟩) hG hT0.lt0 hT0.1 rfl rfl hl.1 rfl (Nat.le_of_ble_eq_true rfl) dX2_restore_9 ⟨(Nat.le_of_ble_eq_true rfl), (Nat.le_of_ble_eq_true rfl)⟩ (fun f9 H locs hp hG => ?_)
  obtain ⟨k3, v3, hT9, hO9, hk9⟩ := hp
  have hX := hX.set (j := 0) (by decide) hT9 hO9
  obtain ⟨hX0, ⟨g4, hX4, hg4⟩, ⟨g5, hX5, hg5⟩, ⟨g42, hX42, hg42⟩, ⟨g43, hX43, hg43⟩, hXT, hXC⟩ := id hX
  refine lv_aload_n S.1 S.2.1 dX2_restore_12 rfl (lv_at hl 0 rfl) ?_
  refine o_get S hG i_X2 (by decide) hX0 rfl 0 (by decide) kf_10 rfl dX2_restore_13 ?_
  refine o_get S hG i_X1 hT9.lt0 hT9.1 rfl 2 (by decide) kf_46 rfl dX2_restore_16 ?_
  exact ret _ _ _ _ _ _ _ _ hG ⟨hO9.x (by decide), j, hj1, hj2, rfl, hj3, rfl, k3, v3, hX, hk9⟩ rfl (Nat.le_of_ble_eq_true rfl) (Nat.le_of_ble_eq_true rfl) dX2_restore_19

set_option maxHeartbeats 4000000 in
set_option maxRecDepth 100000 in
theorem c_X2_size (l : Launch) (hst : l.stackTraces = false) (G : Gx) (ad : Nat → Nat) (s0 : Nat) (f : Nat → va_E) (th : Nat → Bool) (cx : Nat → Nat) (kx vx : Nat → Nat → Int32) (px : Nat → Int) (dx : Nat → Bool) (v : Int32) (hX : RX G ad f th cx kx vx px dx) (hS : ∀ j, j < 21 → Srt (cx j) (kx j))  : xI l yX2_size wsX2_size 7 131 1 6 [.ref (ad 0), .int v] G 84 ad s0 f (fun E => E = xIO ∧ isv th v = false) (fun r f' => f = f' ∧ ∃ j, j ≤ 12 ∧ v = nI j ∧ th j = true ∧ r = nI (cx j)) := by
  refine ov_xI (cc := cX2_size) (maxL := 2) (ty := .int) hst (by decide) rfl (Nat.le_of_ble_eq_true rfl) ?_
  intro p e s m below meth c av Q S ret thx tht hG ls hl
  have S : CallFix p m c cX2_size 2 s av wsX2_size RX2 := S
  have hl : lv_has ls 2 [(0, .ref (ad 0)), (1, .int v)] := hl
  have i_X1 : ∀ w ∈ u_ws RX1 TX1 3, w ∈ wsX2_size := by decide +kernel
  have kf_46 := S.2.2.2.2 (.fieldLink RX2 46 "OrderedVersions$Table" "count" "I") (by decide +kernel)
  obtain ⟨hX0, ⟨g4, hX4, hg4⟩, ⟨g5, hX5, hg5⟩, ⟨g42, hX42, hg42⟩, ⟨g43, hX43, hg43⟩, hXT, hXC⟩ := id hX
  have hT0 : TB G 84 ad f 1 (cx 0) (kx 0) (vx 0) := hXT 0 (by decide)
  have hT0n := hT0.2.2.2.1
  have hS0 := hS 0 (by decide)
  refine lv_aload_n S.1 S.2.1 dX2_size_0 rfl (lv_at hl 0 rfl) ?_
  refine lv_iload_n S.1 S.2.1 dX2_size_1 rfl (lv_at hl 1 rfl) ?_
  refine o_xVr S (rest := []) (c_X2_mapOf l hst G ad s0 f th cx kx vx px dx v hX hS ) (cwV 1 S.2.2.2.2 gX2_size_X2_mapOf rfl rfl rfl (by decide +kernel) ⟨(Nat.le_of_ble_eq_true rfl), (Nat.le_of_ble_eq_true rfl)⟩) hG (by decide) hX0 rfl rfl hl.1 rfl (Nat.le_of_ble_eq_true rfl) dX2_size_2 ⟨(Nat.le_of_ble_eq_true rfl), (Nat.le_of_ble_eq_true rfl)⟩ (fun E ce q9 H locs hE hG h1 h2 h3 => thx E ce q9 _ _ _ _ _ _ _ hG (hE) h1 h2 h3 (Nat.le_of_ble_eq_true rfl) (Nat.le_of_ble_eq_true rfl)) (fun r9 f9 H locs hp hG => ?_)
  obtain ⟨rfl, j, hj2, rfl, hj3, rfl⟩ := hp
  have hTj := hXT j (by omega)
  have hTjn := hTj.2.2.2.1
  have hSj := hS j (by omega)
  have htj := tc_v hj2
  refine o_get S hG i_X1 hTj.lt0 hTj.1 rfl 2 (by decide) kf_46 rfl dX2_size_5 ?_
  exact ret _ _ _ _ _ _ _ _ hG ⟨rfl, j, hj2, rfl, hj3, rfl⟩ rfl (Nat.le_of_ble_eq_true rfl) (Nat.le_of_ble_eq_true rfl) dX2_size_8

set_option maxHeartbeats 4000000 in
set_option maxRecDepth 100000 in
theorem c_X2_get (l : Launch) (hst : l.stackTraces = false) (G : Gx) (ad : Nat → Nat) (s0 : Nat) (f : Nat → va_E) (th : Nat → Bool) (cx : Nat → Nat) (kx vx : Nat → Nat → Int32) (px : Nat → Int) (dx : Nat → Bool) (v key : Int32) (hX : RX G ad f th cx kx vx px dx) (hS : ∀ j, j < 21 → Srt (cx j) (kx j))  : xI l yX2_get wsX2_get 7 131 2 12 [.ref (ad 0), .int v, .int key] G 84 ad s0 f (fun E => (E = xIO ∧ isv th v = false) ∨ (E = xNS ∧ ∃ j, j ≤ 12 ∧ v = nI j ∧ th j = true ∧ hs (cx j) (kx j) key = false)) (fun r f' => f = f' ∧ ∃ j, j ≤ 12 ∧ v = nI j ∧ th j = true ∧ hs (cx j) (kx j) key = true ∧ r = vx j (bel (cx j) (kx j) key)) := by
  refine ov_xI (cc := cX2_get) (maxL := 5) (ty := .int) hst (by decide) rfl (Nat.le_of_ble_eq_true rfl) ?_
  intro p e s m below meth c av Q S ret thx tht hG ls hl
  have S : CallFix p m c cX2_get 5 s av wsX2_get RX2 := S
  have hl : lv_has ls 5 [(0, .ref (ad 0)), (1, .int v), (2, .int key)] := hl
  have i_X1 : ∀ w ∈ u_ws RX1 TX1 3, w ∈ wsX2_get := by decide +kernel
  have kf_42 := S.2.2.2.2 (.fieldLink RX2 42 "OrderedVersions$Table" "values" "[I") (by decide +kernel)
  obtain ⟨hX0, ⟨g4, hX4, hg4⟩, ⟨g5, hX5, hg5⟩, ⟨g42, hX42, hg42⟩, ⟨g43, hX43, hg43⟩, hXT, hXC⟩ := id hX
  have hT0 : TB G 84 ad f 1 (cx 0) (kx 0) (vx 0) := hXT 0 (by decide)
  have hT0n := hT0.2.2.2.1
  have hS0 := hS 0 (by decide)
  refine lv_aload_n S.1 S.2.1 dX2_get_0 rfl (lv_at hl 0 rfl) ?_
  refine lv_iload_n S.1 S.2.1 dX2_get_1 rfl (lv_at hl 1 rfl) ?_
  refine o_xVr S (rest := []) (c_X2_mapOf l hst G ad s0 f th cx kx vx px dx v hX hS ) (cwV 1 S.2.2.2.2 gX2_get_X2_mapOf rfl rfl rfl (by decide +kernel) ⟨(Nat.le_of_ble_eq_true rfl), (Nat.le_of_ble_eq_true rfl)⟩) hG (by decide) hX0 rfl rfl hl.1 rfl (Nat.le_of_ble_eq_true rfl) dX2_get_2 ⟨(Nat.le_of_ble_eq_true rfl), (Nat.le_of_ble_eq_true rfl)⟩ (fun E ce q9 H locs hE hG h1 h2 h3 => thx E ce q9 _ _ _ _ _ _ _ hG (Or.inl hE) h1 h2 h3 (Nat.le_of_ble_eq_true rfl) (Nat.le_of_ble_eq_true rfl)) (fun r9 f9 H locs hp hG => ?_)
  obtain ⟨rfl, j, hj2, rfl, hj3, rfl⟩ := hp
  have hTj := hXT j (by omega)
  have hTjn := hTj.2.2.2.1
  have hSj := hS j (by omega)
  have htj := tc_v hj2
  refine lv_astore_n (lv' := [(3, .ref (ad (tc j))), (0, .ref (ad 0)), (1, .int (nI j)), (2, .int key)]) S.1 S.2.1 dX2_get_5 rfl hl (by decide) rfl (fun ls hl => ?_)
  refine lv_aload_n S.1 S.2.1 dX2_get_6 rfl (lv_at hl 0 rfl) ?_
  refine lv_iload_n S.1 S.2.1 dX2_get_7 rfl (lv_at hl 3 rfl) ?_
  refine o_cVi S (rest := []) (c_X1_countBelow l G 84 ad s0 f (tc j) (cx j) (kx j) (vx j) key hTj) (cwV 1 S.2.2.2.2 gX2_get_X1_countBelow rfl rfl rfl (by decide +kernel) ⟨(Nat.le_of_ble_eq_true rfl), (Nat.le_of_ble_eq_true rfl)⟩) hG hTj.lt0 hTj.1 rfl rfl hl.1 rfl (Nat.le_of_ble_eq_true rfl) dX2_get_8 ⟨(Nat.le_of_ble_eq_true rfl), (Nat.le_of_ble_eq_true rfl)⟩ (fun r9 f9 H locs hp hG => ?_)
  obtain ⟨rfl, rfl⟩ := hp
  have lb_1 := bel_le (cx j) (kx j) key
  refine lv_istore (lv' := [(4, .int (nI (bel (cx j) (kx j) key))), (3, .ref (ad (tc j))), (0, .ref (ad 0)), (1, .int (nI j)), (2, .int key)]) S.1 S.2.1 dX2_get_11 hl (by decide) rfl (fun ls hl => ?_)
  refine lv_aload_n S.1 S.2.1 dX2_get_13 rfl (lv_at hl 1 rfl) ?_
  refine lv_iload S.1 S.2.1 dX2_get_14 (lv_at hl 0 rfl) ?_
  refine lv_iload_n S.1 S.2.1 dX2_get_16 rfl (lv_at hl 4 rfl) ?_
  refine o_cVi S (rest := []) (c_X1_hasAt l G 84 ad s0 f (tc j) (cx j) (kx j) (vx j) (nI (bel (cx j) (kx j) key)) key hTj) (cwV 2 S.2.2.2.2 gX2_get_X1_hasAt rfl rfl rfl (by decide +kernel) ⟨(Nat.le_of_ble_eq_true rfl), (Nat.le_of_ble_eq_true rfl)⟩) hG hTj.lt0 hTj.1 rfl rfl hl.1 rfl (Nat.le_of_ble_eq_true rfl) dX2_get_17 ⟨(Nat.le_of_ble_eq_true rfl), (Nat.le_of_ble_eq_true rfl)⟩ (fun r9 f9 H locs hp hG => ?_)
  obtain ⟨rfl, rfl⟩ := hp
  refine b_if_ne S (b := (ha (cx j) (kx j) (nI (bel (cx j) (kx j) key)) key)) (tgt := 31) dX2_get_20 (by decide) (fun c_20 => ?_) (fun c_20 => ?_)
  · skip
    refine lv_aload_n S.1 S.2.1 dX2_get_31 rfl (lv_at hl 1 rfl) ?_
    refine o_get S hG i_X1 hTj.lt0 hTj.1 rfl 1 (by decide) kf_42 rfl dX2_get_32 ?_
    refine lv_iload S.1 S.2.1 dX2_get_35 (lv_at hl 0 rfl) ?_
    refine o_iald S hG (j := bel (cx j) (kx j) key) hTj.lt2 hTj.2.2.1 (ha_lt hTjn (by omega) c_20) dX2_get_37 (kk := ?_)
    exact ret _ _ _ _ _ _ _ _ hG ⟨rfl, j, hj2, rfl, hj3, (ha_bel hTjn).symm.trans c_20, rfl⟩ rfl (Nat.le_of_ble_eq_true rfl) (Nat.le_of_ble_eq_true rfl) dX2_get_38
  · skip
    exact tht "java/util/NoSuchElementException" ["java/lang/RuntimeException", "java/lang/Exception"] 57 59 _ _ _ _ _ _ _ hG (Or.inr ⟨rfl, j, hj2, rfl, hj3, (ha_bel hTjn).symm.trans c_20⟩) (by decide) (by decide) (S.2.2.2.2 (.classLink RX2 57 "java/util/NoSuchElementException") (by decide +kernel)) (S.2.2.2.2 (.initialized "java/util/NoSuchElementException") (by decide +kernel)) (vx_hat (fun w h => S.2.2.2.2 w ((by decide +kernel : ∀ w ∈ (vx_at0 RX2 59 "java/util/NoSuchElementException" ["java/lang/RuntimeException", "java/lang/Exception"]).filter goodWord, w ∈ wsX2_get) w h)) (by decide +kernel : ∀ w ∈ (vx_at0 RX2 59 "java/util/NoSuchElementException" ["java/lang/RuntimeException", "java/lang/Exception"]).filter (fun w => !goodWord w), w ∈ ov_NG) hG.2.2.2.2.1.2.2.use) (by decide +kernel) (hl.1.trans S.2.2.1.symm) dX2_get_23 dX2_get_26 dX2_get_27 dX2_get_30 (Nat.le_of_ble_eq_true rfl) (Nat.le_of_ble_eq_true rfl) (Nat.le_of_ble_eq_true rfl) (Nat.le_of_ble_eq_true rfl) (Nat.le_of_ble_eq_true rfl) (Nat.le_of_ble_eq_true rfl)

set_option maxHeartbeats 4000000 in
set_option maxRecDepth 100000 in
theorem c_X2_rank (l : Launch) (hst : l.stackTraces = false) (G : Gx) (ad : Nat → Nat) (s0 : Nat) (f : Nat → va_E) (th : Nat → Bool) (cx : Nat → Nat) (kx vx : Nat → Nat → Int32) (px : Nat → Int) (dx : Nat → Bool) (v key : Int32) (hX : RX G ad f th cx kx vx px dx) (hS : ∀ j, j < 21 → Srt (cx j) (kx j))  : xI l yX2_rank wsX2_rank 7 131 1 6 [.ref (ad 0), .int v, .int key] G 84 ad s0 f (fun E => E = xIO ∧ isv th v = false) (fun r f' => f = f' ∧ ∃ j, j ≤ 12 ∧ v = nI j ∧ th j = true ∧ r = nI (bel (cx j) (kx j) key)) := by
  refine ov_xI (cc := cX2_rank) (maxL := 3) (ty := .int) hst (by decide) rfl (Nat.le_of_ble_eq_true rfl) ?_
  intro p e s m below meth c av Q S ret thx tht hG ls hl
  have S : CallFix p m c cX2_rank 3 s av wsX2_rank RX2 := S
  have hl : lv_has ls 3 [(0, .ref (ad 0)), (1, .int v), (2, .int key)] := hl
  obtain ⟨hX0, ⟨g4, hX4, hg4⟩, ⟨g5, hX5, hg5⟩, ⟨g42, hX42, hg42⟩, ⟨g43, hX43, hg43⟩, hXT, hXC⟩ := id hX
  have hT0 : TB G 84 ad f 1 (cx 0) (kx 0) (vx 0) := hXT 0 (by decide)
  have hT0n := hT0.2.2.2.1
  have hS0 := hS 0 (by decide)
  refine lv_aload_n S.1 S.2.1 dX2_rank_0 rfl (lv_at hl 0 rfl) ?_
  refine lv_iload_n S.1 S.2.1 dX2_rank_1 rfl (lv_at hl 1 rfl) ?_
  refine o_xVr S (rest := []) (c_X2_mapOf l hst G ad s0 f th cx kx vx px dx v hX hS ) (cwV 1 S.2.2.2.2 gX2_rank_X2_mapOf rfl rfl rfl (by decide +kernel) ⟨(Nat.le_of_ble_eq_true rfl), (Nat.le_of_ble_eq_true rfl)⟩) hG (by decide) hX0 rfl rfl hl.1 rfl (Nat.le_of_ble_eq_true rfl) dX2_rank_2 ⟨(Nat.le_of_ble_eq_true rfl), (Nat.le_of_ble_eq_true rfl)⟩ (fun E ce q9 H locs hE hG h1 h2 h3 => thx E ce q9 _ _ _ _ _ _ _ hG (hE) h1 h2 h3 (Nat.le_of_ble_eq_true rfl) (Nat.le_of_ble_eq_true rfl)) (fun r9 f9 H locs hp hG => ?_)
  obtain ⟨rfl, j, hj2, rfl, hj3, rfl⟩ := hp
  have hTj := hXT j (by omega)
  have hTjn := hTj.2.2.2.1
  have hSj := hS j (by omega)
  have htj := tc_v hj2
  refine lv_iload_n S.1 S.2.1 dX2_rank_5 rfl (lv_at hl 2 rfl) ?_
  refine o_cVi S (rest := []) (c_X1_countBelow l G 84 ad s0 f (tc j) (cx j) (kx j) (vx j) key hTj) (cwV 1 S.2.2.2.2 gX2_rank_X1_countBelow rfl rfl rfl (by decide +kernel) ⟨(Nat.le_of_ble_eq_true rfl), (Nat.le_of_ble_eq_true rfl)⟩) hG hTj.lt0 hTj.1 rfl rfl hl.1 rfl (Nat.le_of_ble_eq_true rfl) dX2_rank_6 ⟨(Nat.le_of_ble_eq_true rfl), (Nat.le_of_ble_eq_true rfl)⟩ (fun r9 f9 H locs hp hG => ?_)
  obtain ⟨rfl, rfl⟩ := hp
  have lb_1 := bel_le (cx j) (kx j) key
  exact ret _ _ _ _ _ _ _ _ hG ⟨rfl, j, hj2, rfl, hj3, rfl⟩ rfl (Nat.le_of_ble_eq_true rfl) (Nat.le_of_ble_eq_true rfl) dX2_rank_9

set_option maxHeartbeats 4000000 in
set_option maxRecDepth 100000 in
theorem c_X2_select (l : Launch) (hst : l.stackTraces = false) (G : Gx) (ad : Nat → Nat) (s0 : Nat) (f : Nat → va_E) (th : Nat → Bool) (cx : Nat → Nat) (kx vx : Nat → Nat → Int32) (px : Nat → Int) (dx : Nat → Bool) (v rk : Int32) (hX : RX G ad f th cx kx vx px dx) (hS : ∀ j, j < 21 → Srt (cx j) (kx j))  : xI l yX2_select wsX2_select 7 131 2 12 [.ref (ad 0), .int v, .int rk] G 84 ad s0 f (fun E => (E = xIO ∧ isv th v = false) ∨ (E = xNS ∧ ∃ j, j ≤ 12 ∧ v = nI j ∧ th j = true ∧ wi (cx j) rk = false)) (fun r f' => f = f' ∧ ∃ j, j ≤ 12 ∧ v = nI j ∧ th j = true ∧ ∃ i, i < cx j ∧ rk = nI i ∧ r = kx j i) := by
  refine ov_xI (cc := cX2_select) (maxL := 3) (ty := .int) hst (by decide) rfl (Nat.le_of_ble_eq_true rfl) ?_
  intro p e s m below meth c av Q S ret thx tht hG ls hl
  have S : CallFix p m c cX2_select 3 s av wsX2_select RX2 := S
  have hl : lv_has ls 3 [(0, .ref (ad 0)), (1, .int v), (2, .int rk)] := hl
  obtain ⟨hX0, ⟨g4, hX4, hg4⟩, ⟨g5, hX5, hg5⟩, ⟨g42, hX42, hg42⟩, ⟨g43, hX43, hg43⟩, hXT, hXC⟩ := id hX
  have hT0 : TB G 84 ad f 1 (cx 0) (kx 0) (vx 0) := hXT 0 (by decide)
  have hT0n := hT0.2.2.2.1
  have hS0 := hS 0 (by decide)
  refine lv_aload_n S.1 S.2.1 dX2_select_0 rfl (lv_at hl 0 rfl) ?_
  refine lv_iload_n S.1 S.2.1 dX2_select_1 rfl (lv_at hl 1 rfl) ?_
  refine o_xVr S (rest := []) (c_X2_mapOf l hst G ad s0 f th cx kx vx px dx v hX hS ) (cwV 1 S.2.2.2.2 gX2_select_X2_mapOf rfl rfl rfl (by decide +kernel) ⟨(Nat.le_of_ble_eq_true rfl), (Nat.le_of_ble_eq_true rfl)⟩) hG (by decide) hX0 rfl rfl hl.1 rfl (Nat.le_of_ble_eq_true rfl) dX2_select_2 ⟨(Nat.le_of_ble_eq_true rfl), (Nat.le_of_ble_eq_true rfl)⟩ (fun E ce q9 H locs hE hG h1 h2 h3 => thx E ce q9 _ _ _ _ _ _ _ hG (Or.inl hE) h1 h2 h3 (Nat.le_of_ble_eq_true rfl) (Nat.le_of_ble_eq_true rfl)) (fun r9 f9 H locs hp hG => ?_)
  obtain ⟨rfl, j, hj2, rfl, hj3, rfl⟩ := hp
  have hTj := hXT j (by omega)
  have hTjn := hTj.2.2.2.1
  have hSj := hS j (by omega)
  have htj := tc_v hj2
  refine lv_iload_n S.1 S.2.1 dX2_select_5 rfl (lv_at hl 2 rfl) ?_
  refine o_xSi S (rest := []) (c_X2_keyAt l hst G ad s0 f (tc j) (cx j) (kx j) (vx j) rk hTj) (va_cwS 2 S.2.2.2.2 gX2_select_X2_keyAt rfl rfl rfl (by decide +kernel) ⟨(Nat.le_of_ble_eq_true rfl), (Nat.le_of_ble_eq_true rfl)⟩) hG rfl hl.1 rfl (Nat.le_of_ble_eq_true rfl) dX2_select_6 ⟨(Nat.le_of_ble_eq_true rfl), (Nat.le_of_ble_eq_true rfl)⟩ (fun E ce q9 H locs hE hG h1 h2 h3 => thx E ce q9 _ _ _ _ _ _ _ hG (Or.inr ⟨hE.1, j, hj2, rfl, hj3, hE.2⟩) h1 h2 h3 (Nat.le_of_ble_eq_true rfl) (Nat.le_of_ble_eq_true rfl)) (fun r9 f9 H locs hp hG => ?_)
  obtain ⟨rfl, i, hi, ei, rfl⟩ := hp
  exact ret _ _ _ _ _ _ _ _ hG ⟨rfl, j, hj2, rfl, hj3, i, hi, ei, rfl⟩ rfl (Nat.le_of_ble_eq_true rfl) (Nat.le_of_ble_eq_true rfl) dX2_select_9

set_option maxHeartbeats 4000000 in
set_option maxRecDepth 100000 in
theorem c_X2_near (l : Launch) (hst : l.stackTraces = false) (G : Gx) (ad : Nat → Nat) (s0 : Nat) (f : Nat → va_E) (th : Nat → Bool) (cx : Nat → Nat) (kx vx : Nat → Nat → Int32) (px : Nat → Int) (dx : Nat → Bool) (v key : Int32) (ab : Bool) (hX : RX G ad f th cx kx vx px dx) (hS : ∀ j, j < 21 → Srt (cx j) (kx j))  : xI l yX2_near wsX2_near 7 131 2 12 [.ref (ad 0), .int v, .int key, .int (bI ab)] G 84 ad s0 f (fun E => (E = xIO ∧ isv th v = false) ∨ (E = xNS ∧ ∃ j, j ≤ 12 ∧ v = nI j ∧ th j = true ∧ wi (cx j) (nea (cx j) (kx j) key ab) = false)) (fun r f' => f = f' ∧ ∃ j, j ≤ 12 ∧ v = nI j ∧ th j = true ∧ ∃ i, i < cx j ∧ nea (cx j) (kx j) key ab = nI i ∧ r = kx j i) := by
  refine ov_xI (cc := cX2_near) (maxL := 5) (ty := .int) hst (by decide) rfl (Nat.le_of_ble_eq_true rfl) ?_
  intro p e s m below meth c av Q S ret thx tht hG ls hl
  have S : CallFix p m c cX2_near 5 s av wsX2_near RX2 := S
  have hl : lv_has ls 5 [(0, .ref (ad 0)), (1, .int v), (2, .int key), (3, .int (bI ab))] := hl
  obtain ⟨hX0, ⟨g4, hX4, hg4⟩, ⟨g5, hX5, hg5⟩, ⟨g42, hX42, hg42⟩, ⟨g43, hX43, hg43⟩, hXT, hXC⟩ := id hX
  have hT0 : TB G 84 ad f 1 (cx 0) (kx 0) (vx 0) := hXT 0 (by decide)
  have hT0n := hT0.2.2.2.1
  have hS0 := hS 0 (by decide)
  refine lv_aload_n S.1 S.2.1 dX2_near_0 rfl (lv_at hl 0 rfl) ?_
  refine lv_iload_n S.1 S.2.1 dX2_near_1 rfl (lv_at hl 1 rfl) ?_
  refine o_xVr S (rest := []) (c_X2_mapOf l hst G ad s0 f th cx kx vx px dx v hX hS ) (cwV 1 S.2.2.2.2 gX2_near_X2_mapOf rfl rfl rfl (by decide +kernel) ⟨(Nat.le_of_ble_eq_true rfl), (Nat.le_of_ble_eq_true rfl)⟩) hG (by decide) hX0 rfl rfl hl.1 rfl (Nat.le_of_ble_eq_true rfl) dX2_near_2 ⟨(Nat.le_of_ble_eq_true rfl), (Nat.le_of_ble_eq_true rfl)⟩ (fun E ce q9 H locs hE hG h1 h2 h3 => thx E ce q9 _ _ _ _ _ _ _ hG (Or.inl hE) h1 h2 h3 (Nat.le_of_ble_eq_true rfl) (Nat.le_of_ble_eq_true rfl)) (fun r9 f9 H locs hp hG => ?_)
  obtain ⟨rfl, j, hj2, rfl, hj3, rfl⟩ := hp
  have hTj := hXT j (by omega)
  have hTjn := hTj.2.2.2.1
  have hSj := hS j (by omega)
  have htj := tc_v hj2
  refine lv_astore (lv' := [(4, .ref (ad (tc j))), (0, .ref (ad 0)), (1, .int (nI j)), (2, .int key), (3, .int (bI ab))]) S.1 S.2.1 dX2_near_5 hl (by decide) rfl (fun ls hl => ?_)
  refine lv_aload S.1 S.2.1 dX2_near_7 (lv_at hl 0 rfl) ?_
  refine lv_aload S.1 S.2.1 dX2_near_9 (lv_at hl 0 rfl) ?_
  refine lv_iload_n S.1 S.2.1 dX2_near_11 rfl (lv_at hl 3 rfl) ?_
  refine lv_iload_n S.1 S.2.1 dX2_near_12 rfl (lv_at hl 4 rfl) ?_
  refine o_cVi S (rest := [.ref (ad (tc j))]) (c_X1_nearest l G 84 ad s0 f (tc j) (cx j) (kx j) (vx j) key ab hTj) (cwV 2 S.2.2.2.2 gX2_near_X1_nearest rfl rfl rfl (by decide +kernel) ⟨(Nat.le_of_ble_eq_true rfl), (Nat.le_of_ble_eq_true rfl)⟩) hG hTj.lt0 hTj.1 rfl rfl hl.1 rfl (Nat.le_of_ble_eq_true rfl) dX2_near_13 ⟨(Nat.le_of_ble_eq_true rfl), (Nat.le_of_ble_eq_true rfl)⟩ (fun r9 f9 H locs hp hG => ?_)
  obtain ⟨rfl, rfl⟩ := hp
  refine o_xSi S (rest := []) (c_X2_keyAt l hst G ad s0 f (tc j) (cx j) (kx j) (vx j) (nea (cx j) (kx j) key ab) hTj) (va_cwS 2 S.2.2.2.2 gX2_near_X2_keyAt rfl rfl rfl (by decide +kernel) ⟨(Nat.le_of_ble_eq_true rfl), (Nat.le_of_ble_eq_true rfl)⟩) hG rfl hl.1 rfl (Nat.le_of_ble_eq_true rfl) dX2_near_16 ⟨(Nat.le_of_ble_eq_true rfl), (Nat.le_of_ble_eq_true rfl)⟩ (fun E ce q9 H locs hE hG h1 h2 h3 => thx E ce q9 _ _ _ _ _ _ _ hG (Or.inr ⟨hE.1, j, hj2, rfl, hj3, hE.2⟩) h1 h2 h3 (Nat.le_of_ble_eq_true rfl) (Nat.le_of_ble_eq_true rfl)) (fun r9 f9 H locs hp hG => ?_)
  obtain ⟨rfl, i, hi, ei, rfl⟩ := hp
  exact ret _ _ _ _ _ _ _ _ hG ⟨rfl, j, hj2, rfl, hj3, i, hi, ei, rfl⟩ rfl (Nat.le_of_ble_eq_true rfl) (Nat.le_of_ble_eq_true rfl) dX2_near_19

set_option maxHeartbeats 4000000 in
set_option maxRecDepth 100000 in
theorem c_X2_sum (l : Launch) (hst : l.stackTraces = false) (G : Gx) (ad : Nat → Nat) (s0 : Nat) (f : Nat → va_E) (th : Nat → Bool) (cx : Nat → Nat) (kx vx : Nat → Nat → Int32) (px : Nat → Int) (dx : Nat → Bool) (v lo hi : Int32) (hX : RX G ad f th cx kx vx px dx) (hS : ∀ j, j < 21 → Srt (cx j) (kx j))  : xL l yX2_sum wsX2_sum 7 131 1 6 [.ref (ad 0), .int v, .int lo, .int hi] G 84 ad s0 f (fun E => E = xIO ∧ isv th v = false) (fun r f' => f = f' ∧ ∃ j, j ≤ 12 ∧ v = nI j ∧ th j = true ∧ r = svF (vx j) (bel (cx j) (kx j) lo) ((upt (cx j) (kx j) hi) - (bel (cx j) (kx j) lo))) := by
  refine ov_xL (cc := cX2_sum) (maxL := 9) hst (by decide) rfl (Nat.le_of_ble_eq_true rfl) ?_
  intro p e s m below meth c av Q S ret thx tht hG ls hl
  have S : CallFix p m c cX2_sum 9 s av wsX2_sum RX2 := S
  have hl : lv_has ls 9 [(0, .ref (ad 0)), (1, .int v), (2, .int lo), (3, .int hi)] := hl
  have i_X1 : ∀ w ∈ u_ws RX1 TX1 3, w ∈ wsX2_sum := by decide +kernel
  have kf_42 := S.2.2.2.2 (.fieldLink RX2 42 "OrderedVersions$Table" "values" "[I") (by decide +kernel)
  obtain ⟨hX0, ⟨g4, hX4, hg4⟩, ⟨g5, hX5, hg5⟩, ⟨g42, hX42, hg42⟩, ⟨g43, hX43, hg43⟩, hXT, hXC⟩ := id hX
  have hT0 : TB G 84 ad f 1 (cx 0) (kx 0) (vx 0) := hXT 0 (by decide)
  have hT0n := hT0.2.2.2.1
  have hS0 := hS 0 (by decide)
  refine lv_aload_n S.1 S.2.1 dX2_sum_0 rfl (lv_at hl 0 rfl) ?_
  refine lv_iload_n S.1 S.2.1 dX2_sum_1 rfl (lv_at hl 1 rfl) ?_
  refine o_xVr S (rest := []) (c_X2_mapOf l hst G ad s0 f th cx kx vx px dx v hX hS ) (cwV 1 S.2.2.2.2 gX2_sum_X2_mapOf rfl rfl rfl (by decide +kernel) ⟨(Nat.le_of_ble_eq_true rfl), (Nat.le_of_ble_eq_true rfl)⟩) hG (by decide) hX0 rfl rfl hl.1 rfl (Nat.le_of_ble_eq_true rfl) dX2_sum_2 ⟨(Nat.le_of_ble_eq_true rfl), (Nat.le_of_ble_eq_true rfl)⟩ (fun E ce q9 H locs hE hG h1 h2 h3 => thx E ce q9 _ _ _ _ _ _ _ hG (hE) h1 h2 h3 (Nat.le_of_ble_eq_true rfl) (Nat.le_of_ble_eq_true rfl)) (fun r9 f9 H locs hp hG => ?_)
  obtain ⟨rfl, j, hj2, rfl, hj3, rfl⟩ := hp
  have hTj := hXT j (by omega)
  have hTjn := hTj.2.2.2.1
  have hSj := hS j (by omega)
  have htj := tc_v hj2
  refine lv_astore (lv' := [(4, .ref (ad (tc j))), (0, .ref (ad 0)), (1, .int (nI j)), (2, .int lo), (3, .int hi)]) S.1 S.2.1 dX2_sum_5 hl (by decide) rfl (fun ls hl => ?_)
  refine lv_aload S.1 S.2.1 dX2_sum_7 (lv_at hl 0 rfl) ?_
  refine lv_iload_n S.1 S.2.1 dX2_sum_9 rfl (lv_at hl 4 rfl) ?_
  refine o_cVi S (rest := []) (c_X1_countNotAbove l G 84 ad s0 f (tc j) (cx j) (kx j) (vx j) hi hTj) (cwV 1 S.2.2.2.2 gX2_sum_X1_countNotAbove rfl rfl rfl (by decide +kernel) ⟨(Nat.le_of_ble_eq_true rfl), (Nat.le_of_ble_eq_true rfl)⟩) hG hTj.lt0 hTj.1 rfl rfl hl.1 rfl (Nat.le_of_ble_eq_true rfl) dX2_sum_10 ⟨(Nat.le_of_ble_eq_true rfl), (Nat.le_of_ble_eq_true rfl)⟩ (fun r9 f9 H locs hp hG => ?_)
  obtain ⟨rfl, rfl⟩ := hp
  have lb_1 := upt_le (cx j) (kx j) hi hTj.2.2.2.1
  refine lv_istore (lv' := [(5, .int (nI (upt (cx j) (kx j) hi))), (4, .ref (ad (tc j))), (0, .ref (ad 0)), (1, .int (nI j)), (2, .int lo), (3, .int hi)]) S.1 S.2.1 dX2_sum_13 hl (by decide) rfl (fun ls hl => ?_)
  refine lv_lconst (v := lN 0) S.1 S.2.1 dX2_sum_15 (by decide) ?_
  refine lv_lstore (lv' := [(6, .long (lN 0)), (5, .int (nI (upt (cx j) (kx j) hi))), (4, .ref (ad (tc j))), (0, .ref (ad 0)), (1, .int (nI j)), (2, .int lo), (3, .int hi)]) S.1 S.2.1 dX2_sum_16 hl (by decide) rfl (fun ls hl => ?_)
  refine lv_aload S.1 S.2.1 dX2_sum_18 (lv_at hl 2 rfl) ?_
  refine lv_iload_n S.1 S.2.1 dX2_sum_20 rfl (lv_at hl 5 rfl) ?_
  refine o_cVi S (rest := []) (c_X1_countBelow l G 84 ad s0 f (tc j) (cx j) (kx j) (vx j) lo hTj) (cwV 1 S.2.2.2.2 gX2_sum_X1_countBelow rfl rfl rfl (by decide +kernel) ⟨(Nat.le_of_ble_eq_true rfl), (Nat.le_of_ble_eq_true rfl)⟩) hG hTj.lt0 hTj.1 rfl rfl hl.1 rfl (Nat.le_of_ble_eq_true rfl) dX2_sum_21 ⟨(Nat.le_of_ble_eq_true rfl), (Nat.le_of_ble_eq_true rfl)⟩ (fun r9 f9 H locs hp hG => ?_)
  obtain ⟨rfl, rfl⟩ := hp
  have lb_2 := bel_le (cx j) (kx j) lo
  refine lv_istore (lv' := [(8, .int (nI (bel (cx j) (kx j) lo))), (6, .long (lN 0)), (5, .int (nI (upt (cx j) (kx j) hi))), (4, .ref (ad (tc j))), (0, .ref (ad 0)), (1, .int (nI j)), (2, .int lo), (3, .int hi)]) S.1 S.2.1 dX2_sum_24 hl (by decide) rfl (fun ls hl => ?_)
  have L_26 : ∀ (d9 : Nat) (acc : Int64) (m9 : Nat) (H : Heap) (locs : List Loc), (m9 ≤ (upt (cx j) (kx j) hi) - (bel (cx j) (kx j) lo)) → (acc = svF (vx j) (bel (cx j) (kx j) lo) m9) → ((upt (cx j) (kx j) hi) - ((bel (cx j) (kx j) lo) + m9)) < d9 → ov_dy G 84 ad s0 s f H locs → ∀ ls : Array Slot, lv_has ls 9 [(0, .ref (ad 0)), (1, .int (nI j)), (2, .int lo), (3, .int hi), (4, .ref (ad (tc j))), (5, .int (nI (upt (cx j) (kx j) hi))), (6, .long acc), (8, .int (nI ((bel (cx j) (kx j) lo) + m9)))] → W p l e (ov_rm 7 131 1 6) s m av below meth c H locs 1 6 Q (F0 m 26 ls []) := by
    intro d9
    induction d9 with
    | zero => intro acc m9 H locs hm hc h9; exact absurd h9 (Nat.not_lt_zero _)
    | succ d9 ih_26 =>
      intro acc m9 H locs hm hc h9 hG ls hl
      refine lv_iload S.1 S.2.1 dX2_sum_26 (lv_at hl 7 rfl) ?_
      refine lv_iload S.1 S.2.1 dX2_sum_28 (lv_at hl 5 rfl) ?_
      refine n_ge S (a := (bel (cx j) (kx j) lo) + m9) (b := (upt (cx j) (kx j) hi)) (tgt := 53) dX2_sum_30 (by decide) (by omega) (by omega) (fun c_30 => ?_) (fun c_30 => ?_)
      · skip
        refine lv_lload S.1 S.2.1 dX2_sum_53 (lv_at hl 6 rfl) ?_
        exact ret _ _ _ _ _ _ _ _ hG ⟨rfl, j, hj2, rfl, hj3, by rw [hc, show m9 = (upt (cx j) (kx j) hi) - (bel (cx j) (kx j) lo) by omega]⟩ (Nat.le_of_ble_eq_true rfl) (Nat.le_of_ble_eq_true rfl) dX2_sum_55
      · skip
        refine lv_lload S.1 S.2.1 dX2_sum_33 (lv_at hl 6 rfl) ?_
        refine lv_aload S.1 S.2.1 dX2_sum_35 (lv_at hl 4 rfl) ?_
        refine o_get S hG i_X1 hTj.lt0 hTj.1 rfl 1 (by decide) kf_42 rfl dX2_sum_37 ?_
        refine lv_iload S.1 S.2.1 dX2_sum_40 (lv_at hl 7 rfl) ?_
        refine o_iald S hG (j := (bel (cx j) (kx j) lo) + m9) hTj.lt2 hTj.2.2.1 (by omega) dX2_sum_42 (kk := ?_)
        refine lv_i2l (v := ((vx j) ((bel (cx j) (kx j) lo) + m9)).toInt64) S.1 S.2.1 dX2_sum_43 rfl ?_
        refine lv_ladd S.1 S.2.1 dX2_sum_44 ?_
        refine lv_lstore (lv' := [(6, .long (acc + (((vx j) ((bel (cx j) (kx j) lo) + m9)).toInt64))), (0, .ref (ad 0)), (1, .int (nI j)), (2, .int lo), (3, .int hi), (4, .ref (ad (tc j))), (5, .int (nI (upt (cx j) (kx j) hi))), (8, .int (nI ((bel (cx j) (kx j) lo) + m9)))]) S.1 S.2.1 dX2_sum_45 hl (by decide) rfl (fun ls hl => ?_)
        refine lv_iinc (v := (nI ((bel (cx j) (kx j) lo) + m9 + 1))) (lv' := [(8, .int (nI ((bel (cx j) (kx j) lo) + m9 + 1))), (6, .long (acc + (((vx j) ((bel (cx j) (kx j) lo) + m9)).toInt64))), (0, .ref (ad 0)), (1, .int (nI j)), (2, .int lo), (3, .int hi), (4, .ref (ad (tc j))), (5, .int (nI (upt (cx j) (kx j) hi)))]) S.1 S.2.1 dX2_sum_47 hl (k := 7) rfl (nI_add ((bel (cx j) (kx j) lo) + m9) 1) (by decide) rfl (fun ls hl => ?_)
        refine lv_goto (tgt := 26) S.1 S.2.1 dX2_sum_50 (by decide) ?_
        exact ih_26 (acc + (((vx j) ((bel (cx j) (kx j) lo) + m9)).toInt64)) (m9 + 1) _ _ (by omega) (by rw [hc]; rfl) (by omega) hG ls (lv_sub hl [2, 3, 4, 5, 6, 7, 1, 0] rfl)
  exact L_26 _ (lN 0) 0 _ _ (Nat.zero_le _) rfl (Nat.lt_succ_self _) hG ls (lv_sub hl [4, 5, 6, 7, 3, 2, 1, 0] rfl)

set_option maxHeartbeats 4000000 in
set_option maxRecDepth 100000 in
theorem c_X2_greatest (l : Launch) (hst : l.stackTraces = false) (G : Gx) (ad : Nat → Nat) (s0 : Nat) (f : Nat → va_E) (th : Nat → Bool) (cx : Nat → Nat) (kx vx : Nat → Nat → Int32) (px : Nat → Int) (dx : Nat → Bool) (v lo hi : Int32) (hX : RX G ad f th cx kx vx px dx) (hS : ∀ j, j < 21 → Srt (cx j) (kx j))  : xI l yX2_greatest wsX2_greatest 7 131 2 12 [.ref (ad 0), .int v, .int lo, .int hi] G 84 ad s0 f (fun E => (E = xIO ∧ isv th v = false) ∨ (E = xNS ∧ ∃ j, j ≤ 12 ∧ v = nI j ∧ th j = true ∧ (upt (cx j) (kx j) hi) ≤ (bel (cx j) (kx j) lo))) (fun r f' => f = f' ∧ ∃ j, j ≤ 12 ∧ v = nI j ∧ th j = true ∧ (bel (cx j) (kx j) lo) < (upt (cx j) (kx j) hi) ∧ r = gvF (vx j) (bel (cx j) (kx j) lo) ((upt (cx j) (kx j) hi) - (bel (cx j) (kx j) lo) - 1)) := by
  refine ov_xI (cc := cX2_greatest) (maxL := 9) (ty := .int) hst (by decide) rfl (Nat.le_of_ble_eq_true rfl) ?_
  intro p e s m below meth c av Q S ret thx tht hG ls hl
  have S : CallFix p m c cX2_greatest 9 s av wsX2_greatest RX2 := S
  have hl : lv_has ls 9 [(0, .ref (ad 0)), (1, .int v), (2, .int lo), (3, .int hi)] := hl
  have i_X1 : ∀ w ∈ u_ws RX1 TX1 3, w ∈ wsX2_greatest := by decide +kernel
  have kf_42 := S.2.2.2.2 (.fieldLink RX2 42 "OrderedVersions$Table" "values" "[I") (by decide +kernel)
  obtain ⟨hX0, ⟨g4, hX4, hg4⟩, ⟨g5, hX5, hg5⟩, ⟨g42, hX42, hg42⟩, ⟨g43, hX43, hg43⟩, hXT, hXC⟩ := id hX
  have hT0 : TB G 84 ad f 1 (cx 0) (kx 0) (vx 0) := hXT 0 (by decide)
  have hT0n := hT0.2.2.2.1
  have hS0 := hS 0 (by decide)
  refine lv_aload_n S.1 S.2.1 dX2_greatest_0 rfl (lv_at hl 0 rfl) ?_
  refine lv_iload_n S.1 S.2.1 dX2_greatest_1 rfl (lv_at hl 1 rfl) ?_
  refine o_xVr S (rest := []) (c_X2_mapOf l hst G ad s0 f th cx kx vx px dx v hX hS ) (cwV 1 S.2.2.2.2 gX2_greatest_X2_mapOf rfl rfl rfl (by decide +kernel) ⟨(Nat.le_of_ble_eq_true rfl), (Nat.le_of_ble_eq_true rfl)⟩) hG (by decide) hX0 rfl rfl hl.1 rfl (Nat.le_of_ble_eq_true rfl) dX2_greatest_2 ⟨(Nat.le_of_ble_eq_true rfl), (Nat.le_of_ble_eq_true rfl)⟩ (fun E ce q9 H locs hE hG h1 h2 h3 => thx E ce q9 _ _ _ _ _ _ _ hG (Or.inl hE) h1 h2 h3 (Nat.le_of_ble_eq_true rfl) (Nat.le_of_ble_eq_true rfl)) (fun r9 f9 H locs hp hG => ?_)
  obtain ⟨rfl, j, hj2, rfl, hj3, rfl⟩ := hp
  have hTj := hXT j (by omega)
  have hTjn := hTj.2.2.2.1
  have hSj := hS j (by omega)
  have htj := tc_v hj2
  refine lv_astore (lv' := [(4, .ref (ad (tc j))), (0, .ref (ad 0)), (1, .int (nI j)), (2, .int lo), (3, .int hi)]) S.1 S.2.1 dX2_greatest_5 hl (by decide) rfl (fun ls hl => ?_)
  refine lv_aload S.1 S.2.1 dX2_greatest_7 (lv_at hl 0 rfl) ?_
  refine lv_iload_n S.1 S.2.1 dX2_greatest_9 rfl (lv_at hl 3 rfl) ?_
  refine o_cVi S (rest := []) (c_X1_countBelow l G 84 ad s0 f (tc j) (cx j) (kx j) (vx j) lo hTj) (cwV 1 S.2.2.2.2 gX2_greatest_X1_countBelow rfl rfl rfl (by decide +kernel) ⟨(Nat.le_of_ble_eq_true rfl), (Nat.le_of_ble_eq_true rfl)⟩) hG hTj.lt0 hTj.1 rfl rfl hl.1 rfl (Nat.le_of_ble_eq_true rfl) dX2_greatest_10 ⟨(Nat.le_of_ble_eq_true rfl), (Nat.le_of_ble_eq_true rfl)⟩ (fun r9 f9 H locs hp hG => ?_)
  obtain ⟨rfl, rfl⟩ := hp
  have lb_1 := bel_le (cx j) (kx j) lo
  refine lv_istore (lv' := [(5, .int (nI (bel (cx j) (kx j) lo))), (4, .ref (ad (tc j))), (0, .ref (ad 0)), (1, .int (nI j)), (2, .int lo), (3, .int hi)]) S.1 S.2.1 dX2_greatest_13 hl (by decide) rfl (fun ls hl => ?_)
  refine lv_aload S.1 S.2.1 dX2_greatest_15 (lv_at hl 1 rfl) ?_
  refine lv_iload_n S.1 S.2.1 dX2_greatest_17 rfl (lv_at hl 5 rfl) ?_
  refine o_cVi S (rest := []) (c_X1_countNotAbove l G 84 ad s0 f (tc j) (cx j) (kx j) (vx j) hi hTj) (cwV 1 S.2.2.2.2 gX2_greatest_X1_countNotAbove rfl rfl rfl (by decide +kernel) ⟨(Nat.le_of_ble_eq_true rfl), (Nat.le_of_ble_eq_true rfl)⟩) hG hTj.lt0 hTj.1 rfl rfl hl.1 rfl (Nat.le_of_ble_eq_true rfl) dX2_greatest_18 ⟨(Nat.le_of_ble_eq_true rfl), (Nat.le_of_ble_eq_true rfl)⟩ (fun r9 f9 H locs hp hG => ?_)
  obtain ⟨rfl, rfl⟩ := hp
  have lb_2 := upt_le (cx j) (kx j) hi hTj.2.2.2.1
  refine lv_istore (lv' := [(6, .int (nI (upt (cx j) (kx j) hi))), (5, .int (nI (bel (cx j) (kx j) lo))), (4, .ref (ad (tc j))), (0, .ref (ad 0)), (1, .int (nI j)), (2, .int lo), (3, .int hi)]) S.1 S.2.1 dX2_greatest_21 hl (by decide) rfl (fun ls hl => ?_)
  refine lv_iload S.1 S.2.1 dX2_greatest_23 (lv_at hl 1 rfl) ?_
  refine lv_iload S.1 S.2.1 dX2_greatest_25 (lv_at hl 0 rfl) ?_
  refine n_lt S (a := bel (cx j) (kx j) lo) (b := upt (cx j) (kx j) hi) (tgt := 38) dX2_greatest_27 (by decide) (by omega) (by omega) (fun c_27 => ?_) (fun c_27 => ?_)
  · skip
    refine lv_aload S.1 S.2.1 dX2_greatest_38 (lv_at hl 2 rfl) ?_
    refine o_get S hG i_X1 hTj.lt0 hTj.1 rfl 1 (by decide) kf_42 rfl dX2_greatest_40 ?_
    refine lv_iload S.1 S.2.1 dX2_greatest_43 (lv_at hl 1 rfl) ?_
    refine o_iald S hG (j := bel (cx j) (kx j) lo) hTj.lt2 hTj.2.2.1 (by omega) dX2_greatest_45 (kk := ?_)
    refine lv_istore (lv' := [(7, .int ((vx j) (bel (cx j) (kx j) lo))), (6, .int (nI (upt (cx j) (kx j) hi))), (5, .int (nI (bel (cx j) (kx j) lo))), (4, .ref (ad (tc j))), (0, .ref (ad 0)), (1, .int (nI j)), (2, .int lo), (3, .int hi)]) S.1 S.2.1 dX2_greatest_46 hl (by decide) rfl (fun ls hl => ?_)
    refine lv_iload S.1 S.2.1 dX2_greatest_48 (lv_at hl 2 rfl) ?_
    refine lv_iconst (v := (nI 1)) S.1 S.2.1 dX2_greatest_50 (by decide) ?_
    refine o_add S (a := bel (cx j) (kx j) lo) (b := 1) dX2_greatest_51 ?_
    refine lv_istore (lv' := [(8, .int (nI ((bel (cx j) (kx j) lo) + 1))), (7, .int ((vx j) (bel (cx j) (kx j) lo))), (6, .int (nI (upt (cx j) (kx j) hi))), (5, .int (nI (bel (cx j) (kx j) lo))), (4, .ref (ad (tc j))), (0, .ref (ad 0)), (1, .int (nI j)), (2, .int lo), (3, .int hi)]) S.1 S.2.1 dX2_greatest_52 hl (by decide) rfl (fun ls hl => ?_)
    have L_54 : ∀ (d9 : Nat) (b0 : Int32) (m9 : Nat) (H : Heap) (locs : List Loc), (m9 ≤ (upt (cx j) (kx j) hi) - (bel (cx j) (kx j) lo) - 1) → (b0 = gvF (vx j) (bel (cx j) (kx j) lo) m9) → ((upt (cx j) (kx j) hi) - ((bel (cx j) (kx j) lo) + 1 + m9)) < d9 → ov_dy G 84 ad s0 s f H locs → ∀ ls : Array Slot, lv_has ls 9 [(0, .ref (ad 0)), (1, .int (nI j)), (2, .int lo), (3, .int hi), (4, .ref (ad (tc j))), (5, .int (nI (bel (cx j) (kx j) lo))), (6, .int (nI (upt (cx j) (kx j) hi))), (7, .int b0), (8, .int (nI ((bel (cx j) (kx j) lo) + 1 + m9)))] → W p l e (ov_rm 7 131 2 12) s m av below meth c H locs 1 6 Q (F0 m 54 ls []) := by
      intro d9
      induction d9 with
      | zero => intro b0 m9 H locs hm hc h9; exact absurd h9 (Nat.not_lt_zero _)
      | succ d9 ih_54 =>
        intro b0 m9 H locs hm hc h9 hG ls hl
        refine lv_iload S.1 S.2.1 dX2_greatest_54 (lv_at hl 8 rfl) ?_
        refine lv_iload S.1 S.2.1 dX2_greatest_56 (lv_at hl 6 rfl) ?_
        refine n_ge S (a := (bel (cx j) (kx j) lo) + 1 + m9) (b := (upt (cx j) (kx j) hi)) (tgt := 82) dX2_greatest_58 (by decide) (by omega) (by omega) (fun c_58 => ?_) (fun c_58 => ?_)
        · skip
          refine lv_iload S.1 S.2.1 dX2_greatest_82 (lv_at hl 7 rfl) ?_
          exact ret _ _ _ _ _ _ _ _ hG ⟨rfl, j, hj2, rfl, hj3, c_27, by rw [hc, show m9 = (upt (cx j) (kx j) hi) - (bel (cx j) (kx j) lo) - 1 by omega]⟩ rfl (Nat.le_of_ble_eq_true rfl) (Nat.le_of_ble_eq_true rfl) dX2_greatest_84
        · skip
          refine lv_iload S.1 S.2.1 dX2_greatest_61 (lv_at hl 7 rfl) ?_
          refine lv_aload S.1 S.2.1 dX2_greatest_63 (lv_at hl 4 rfl) ?_
          refine o_get S hG i_X1 hTj.lt0 hTj.1 rfl 1 (by decide) kf_42 rfl dX2_greatest_65 ?_
          refine lv_iload S.1 S.2.1 dX2_greatest_68 (lv_at hl 8 rfl) ?_
          refine o_iald S hG (j := (bel (cx j) (kx j) lo) + 1 + m9) hTj.lt2 hTj.2.2.1 (by omega) dX2_greatest_70 (kk := ?_)
          refine va_mmax S.1 S.2.1 (S.2.2.1.trans hl.1.symm) S.2.2.2.1 (S.2.2.2.2 (.methodLink RX2 112 Lib.Math.max.name) (by decide +kernel)) (S.2.2.2.2 (.static Lib.Math.max.name) (by decide +kernel)) (S.2.2.2.2 (.initialized "java/lang/Math") (by decide +kernel)) (S.2.2.2.2 (.code Lib.Math.max.name Lib.Math.max.code 2 (some .int)) (by decide +kernel)) (Nat.le_of_ble_eq_true rfl) (Nat.le_of_ble_eq_true rfl) (Nat.le_of_ble_eq_true rfl) (Nat.le_of_ble_eq_true rfl) dX2_greatest_71 ?_
          refine lv_istore (lv' := [(7, .int (if b0 < ((vx j) ((bel (cx j) (kx j) lo) + 1 + m9)) then ((vx j) ((bel (cx j) (kx j) lo) + 1 + m9)) else b0)), (0, .ref (ad 0)), (1, .int (nI j)), (2, .int lo), (3, .int hi), (4, .ref (ad (tc j))), (5, .int (nI (bel (cx j) (kx j) lo))), (6, .int (nI (upt (cx j) (kx j) hi))), (8, .int (nI ((bel (cx j) (kx j) lo) + 1 + m9)))]) S.1 S.2.1 dX2_greatest_74 hl (by decide) rfl (fun ls hl => ?_)
          refine lv_iinc (v := (nI ((bel (cx j) (kx j) lo) + 1 + m9 + 1))) (lv' := [(8, .int (nI ((bel (cx j) (kx j) lo) + 1 + m9 + 1))), (7, .int (if b0 < ((vx j) ((bel (cx j) (kx j) lo) + 1 + m9)) then ((vx j) ((bel (cx j) (kx j) lo) + 1 + m9)) else b0)), (0, .ref (ad 0)), (1, .int (nI j)), (2, .int lo), (3, .int hi), (4, .ref (ad (tc j))), (5, .int (nI (bel (cx j) (kx j) lo))), (6, .int (nI (upt (cx j) (kx j) hi)))]) S.1 S.2.1 dX2_greatest_76 hl (k := 8) rfl (nI_add ((bel (cx j) (kx j) lo) + 1 + m9) 1) (by decide) rfl (fun ls hl => ?_)
          refine lv_goto (tgt := 54) S.1 S.2.1 dX2_greatest_79 (by decide) ?_
          exact ih_54 (if b0 < ((vx j) ((bel (cx j) (kx j) lo) + 1 + m9)) then ((vx j) ((bel (cx j) (kx j) lo) + 1 + m9)) else b0) (m9 + 1) _ _ (by omega) (by rw [hc]; rfl) (by omega) hG ls (lv_sub hl [2, 3, 4, 5, 6, 7, 8, 1, 0] rfl)
    exact L_54 _ (vx j (bel (cx j) (kx j) lo)) 0 _ _ (Nat.zero_le _) rfl (Nat.lt_succ_self _) hG ls (lv_sub hl [5, 6, 7, 8, 4, 3, 2, 1, 0] rfl)
  · skip
    exact tht "java/util/NoSuchElementException" ["java/lang/RuntimeException", "java/lang/Exception"] 57 59 _ _ _ _ _ _ _ hG (Or.inr ⟨rfl, j, hj2, rfl, hj3, c_27⟩) (by decide) (by decide) (S.2.2.2.2 (.classLink RX2 57 "java/util/NoSuchElementException") (by decide +kernel)) (S.2.2.2.2 (.initialized "java/util/NoSuchElementException") (by decide +kernel)) (vx_hat (fun w h => S.2.2.2.2 w ((by decide +kernel : ∀ w ∈ (vx_at0 RX2 59 "java/util/NoSuchElementException" ["java/lang/RuntimeException", "java/lang/Exception"]).filter goodWord, w ∈ wsX2_greatest) w h)) (by decide +kernel : ∀ w ∈ (vx_at0 RX2 59 "java/util/NoSuchElementException" ["java/lang/RuntimeException", "java/lang/Exception"]).filter (fun w => !goodWord w), w ∈ ov_NG) hG.2.2.2.2.1.2.2.use) (by decide +kernel) (hl.1.trans S.2.2.1.symm) dX2_greatest_30 dX2_greatest_33 dX2_greatest_34 dX2_greatest_37 (Nat.le_of_ble_eq_true rfl) (Nat.le_of_ble_eq_true rfl) (Nat.le_of_ble_eq_true rfl) (Nat.le_of_ble_eq_true rfl) (Nat.le_of_ble_eq_true rfl) (Nat.le_of_ble_eq_true rfl)

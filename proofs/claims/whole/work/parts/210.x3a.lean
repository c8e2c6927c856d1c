set_option maxHeartbeats 4000000 in
set_option maxRecDepth 100000 in
theorem c_X3_below (l : Launch) (G : Gx) (ad : Nat → Nat) (s0 : Nat) (f : Nat → va_E) (cd : Nat) (K V : Nat → Int32) (sz : Nat → Nat) (th : Nat → Bool) (pl : Nat → Int) (dn : Nat → Bool) (j : Nat) (key : Int32) (hM : MB G ad f cd K V sz th pl dn) (hj : j < 21) (hn : sz j ≤ 600) : mI l yX3_below wsX3_below 0 0 0 0 [.ref (ad 76), .int (nI j), .int key] G 84 ad s0 f (fun r f' => f = f' ∧ r = nI (bel (sz j) (of K j) key)) := by
  refine ov_mI (cc := cX3_below) (maxL := 4) (ty := .int) (by decide) rfl (Nat.le_of_ble_eq_true rfl) ?_
  intro p e s m below meth c av Q S ret hG ls hl
  have S : CallFix p m c cX3_below 4 s av wsX3_below RX3 := S
  have hl : lv_has ls 4 [(0, .ref (ad 76)), (1, .int (nI j)), (2, .int key)] := hl
  have i_X3 : ∀ w ∈ u_ws RX3 TX3 7, w ∈ wsX3_below := by decide +kernel
  have kf_7 := S.2.2.2.2 (.fieldLink RX3 7 "OrderedVersionsModel" "keys" "[I") (by decide +kernel)
  have kf_16 := S.2.2.2.2 (.fieldLink RX3 16 "OrderedVersionsModel" "sizes" "[I") (by decide +kernel)
  refine lv_iconst (v := (nI 0)) S.1 S.2.1 dX3_below_0 (by decide) ?_
  refine lv_istore_n (lv' := [(3, .int (nI 0)), (0, .ref (ad 76)), (1, .int (nI j)), (2, .int key)]) S.1 S.2.1 dX3_below_1 rfl hl (by decide) rfl (fun ls hl => ?_)
  have L_2 : ∀ (d9 : Nat) (i : Nat) (H : Heap) (locs : List Loc), (i ≤ sz j) → (∀ z, z < i → of K j z < key) → (sz j - i) < d9 → ov_dy G 84 ad s0 s f H locs → ∀ ls : Array Slot, lv_has ls 4 [(0, .ref (ad 76)), (1, .int (nI j)), (2, .int key), (3, .int (nI i))] → W p l e (ov_rm 0 0 0 0) s m av below meth c H locs 0 0 Q (F0 m 2 ls []) := by
    intro d9
    induction d9 with
    | zero => intro i H locs hi hlo h9; exact absurd h9 (Nat.not_lt_zero _)
    | succ d9 ih_2 =>
      intro i H locs hi hlo h9 hG ls hl
      refine lv_iload_n S.1 S.2.1 dX3_below_2 rfl (lv_at hl 3 rfl) ?_
      refine lv_aload_n S.1 S.2.1 dX3_below_3 rfl (lv_at hl 0 rfl) ?_
      refine o_get S hG i_X3 (by decide) hM.1 rfl 3 (by decide) kf_16 rfl dX3_below_4 ?_
      refine lv_iload_n S.1 S.2.1 dX3_below_7 rfl (lv_at hl 1 rfl) ?_
      refine o_iald S hG (j := j) (by decide) hM.2.2.2.1 (by omega) dX3_below_8 (kk := ?_)
      refine n_ge S (a := i) (b := sz j) (tgt := 34) dX3_below_9 (by decide) (by omega) (by omega) (fun c_9 => ?_) (fun c_9 => ?_)
      · skip
        refine lv_iload_n S.1 S.2.1 dX3_below_34 rfl (lv_at hl 3 rfl) ?_
        exact ret _ _ _ _ _ _ _ _ hG ⟨rfl, by rw [bel_eq (sz j) (of K j) key i hi hlo (fun h => absurd h (by omega))]⟩ rfl (Nat.le_of_ble_eq_true rfl) (Nat.le_of_ble_eq_true rfl) dX3_below_35
      · skip
        refine lv_aload_n S.1 S.2.1 dX3_below_12 rfl (lv_at hl 0 rfl) ?_
        refine o_get S hG i_X3 (by decide) hM.1 rfl 1 (by decide) kf_7 rfl dX3_below_13 ?_
        refine lv_sipush (v := (nI 600)) S.1 S.2.1 dX3_below_16 (by decide) ?_
        refine lv_iload_n S.1 S.2.1 dX3_below_19 rfl (lv_at hl 1 rfl) ?_
        refine o_mul S (a := 600) (b := j) dX3_below_20 ?_
        refine lv_iload_n S.1 S.2.1 dX3_below_21 rfl (lv_at hl 3 rfl) ?_
        refine o_add S (a := 600 * j) (b := i) dX3_below_22 ?_
        refine o_iald S hG (j := (600 * j) + i) (by decide) hM.2.1 (by omega) dX3_below_23 (kk := ?_)
        refine lv_iload_n S.1 S.2.1 dX3_below_24 rfl (lv_at hl 2 rfl) ?_
        refine lv_icmp_ge (tgt := 34) S.1 S.2.1 dX3_below_25 (by decide) (fun c_25 => ?_) (fun c_25 => ?_)
        · skip
          refine lv_iload_n S.1 S.2.1 dX3_below_34 rfl (lv_at hl 3 rfl) ?_
          exact ret _ _ _ _ _ _ _ _ hG ⟨rfl, by rw [bel_eq (sz j) (of K j) key i hi hlo (fun _ => i32_nlt c_25)]⟩ rfl (Nat.le_of_ble_eq_true rfl) (Nat.le_of_ble_eq_true rfl) dX3_below_35
        · skip
          refine lv_iinc (v := (nI (i + 1))) (lv' := [(3, .int (nI (i + 1))), (0, .ref (ad 76)), (1, .int (nI j)), (2, .int key)]) S.1 S.2.1 dX3_below_28 hl (k := 3) rfl (nI_add i 1) (by decide) rfl (fun ls hl => ?_)
          refine lv_goto (tgt := 2) S.1 S.2.1 dX3_below_31 (by decide) ?_
          exact ih_2 (i + 1) _ _ (by omega) (lt_s hlo (i32_of_nle c_25)) (by omega) hG ls (lv_sub hl [1, 2, 3, 0] rfl)
  exact L_2 _ 0 _ _ (Nat.zero_le _) (fun z h => absurd h (Nat.not_lt_zero _)) (Nat.lt_succ_self _) hG ls (lv_sub hl [1, 2, 3, 0] rfl)

set_option maxHeartbeats 4000000 in
set_option maxRecDepth 100000 in
theorem c_X3_has (l : Launch) (G : Gx) (ad : Nat → Nat) (s0 : Nat) (f : Nat → va_E) (cd : Nat) (K V : Nat → Int32) (sz : Nat → Nat) (th : Nat → Bool) (pl : Nat → Int) (dn : Nat → Bool) (j : Nat) (key : Int32) (hM : MB G ad f cd K V sz th pl dn) (hj : j < 21) (hn : sz j ≤ 600) : mI l yX3_has wsX3_has 1 23 0 0 [.ref (ad 76), .int (nI j), .int key] G 84 ad s0 f (fun r f' => f = f' ∧ r = bI (hs (sz j) (of K j) key)) := by
  refine ov_mI (cc := cX3_has) (maxL := 4) (ty := .boolean) (by decide) rfl (Nat.le_of_ble_eq_true rfl) ?_
  intro p e s m below meth c av Q S ret hG ls hl
  have S : CallFix p m c cX3_has 4 s av wsX3_has RX3 := S
  have hl : lv_has ls 4 [(0, .ref (ad 76)), (1, .int (nI j)), (2, .int key)] := hl
  have i_X3 : ∀ w ∈ u_ws RX3 TX3 7, w ∈ wsX3_has := by decide +kernel
  have kf_7 := S.2.2.2.2 (.fieldLink RX3 7 "OrderedVersionsModel" "keys" "[I") (by decide +kernel)
  have kf_16 := S.2.2.2.2 (.fieldLink RX3 16 "OrderedVersionsModel" "sizes" "[I") (by decide +kernel)
  refine lv_aload_n S.1 S.2.1 dX3_has_0 rfl (lv_at hl 0 rfl) ?_
  refine lv_iload_n S.1 S.2.1 dX3_has_1 rfl (lv_at hl 1 rfl) ?_
  refine lv_iload_n S.1 S.2.1 dX3_has_2 rfl (lv_at hl 2 rfl) ?_
  refine o_cVi S (rest := []) (c_X3_below l G ad s0 f cd K V sz th pl dn j key hM (by omega) (by omega)) (cwV 2 S.2.2.2.2 gX3_has_X3_below rfl rfl rfl (by decide +kernel) ⟨(Nat.le_of_ble_eq_true rfl), (Nat.le_of_ble_eq_true rfl)⟩) hG (by decide) hM.1 rfl rfl hl.1 rfl (Nat.le_of_ble_eq_true rfl) dX3_has_3 ⟨(Nat.le_of_ble_eq_true rfl), (Nat.le_of_ble_eq_true rfl)⟩ (fun r9 f9 H locs hp hG => ?_)
  obtain ⟨rfl, rfl⟩ := hp
  have lb_1 := bel_le (sz j) (of K j) key
  refine lv_istore_n (lv' := [(3, .int (nI (bel (sz j) (of K j) key))), (0, .ref (ad 76)), (1, .int (nI j)), (2, .int key)]) S.1 S.2.1 dX3_has_6 rfl hl (by decide) rfl (fun ls hl => ?_)
  refine lv_iload_n S.1 S.2.1 dX3_has_7 rfl (lv_at hl 0 rfl) ?_
  refine lv_aload_n S.1 S.2.1 dX3_has_8 rfl (lv_at hl 1 rfl) ?_
  refine o_get S hG i_X3 (by decide) hM.1 rfl 3 (by decide) kf_16 rfl dX3_has_9 ?_
  refine lv_iload_n S.1 S.2.1 dX3_has_12 rfl (lv_at hl 2 rfl) ?_
  refine o_iald S hG (j := j) (by decide) hM.2.2.2.1 (by omega) dX3_has_13 (kk := ?_)
  refine n_ge S (a := bel (sz j) (of K j) key) (b := sz j) (tgt := 37) dX3_has_14 (by decide) (by omega) (by omega) (fun c_14 => ?_) (fun c_14 => ?_)
  · skip
    refine lv_iconst (v := (nI 0)) S.1 S.2.1 dX3_has_37 (by decide) ?_
    exact ret _ _ _ _ _ _ _ _ hG ⟨rfl, bI_f (decide_eq_false fun q => absurd q.1 (by omega))⟩ rfl (Nat.le_of_ble_eq_true rfl) (Nat.le_of_ble_eq_true rfl) dX3_has_38
  · skip
    refine lv_aload_n S.1 S.2.1 dX3_has_17 rfl (lv_at hl 1 rfl) ?_
    refine o_get S hG i_X3 (by decide) hM.1 rfl 1 (by decide) kf_7 rfl dX3_has_18 ?_
    refine lv_sipush (v := (nI 600)) S.1 S.2.1 dX3_has_21 (by decide) ?_
    refine lv_iload_n S.1 S.2.1 dX3_has_24 rfl (lv_at hl 2 rfl) ?_
    refine o_mul S (a := 600) (b := j) dX3_has_25 ?_
    refine lv_iload_n S.1 S.2.1 dX3_has_26 rfl (lv_at hl 0 rfl) ?_
    refine o_add S (a := 600 * j) (b := bel (sz j) (of K j) key) dX3_has_27 ?_
    refine o_iald S hG (j := (600 * j) + (bel (sz j) (of K j) key)) (by decide) hM.2.1 (by omega) dX3_has_28 (kk := ?_)
    refine lv_iload_n S.1 S.2.1 dX3_has_29 rfl (lv_at hl 3 rfl) ?_
    refine lv_icmp_ne (tgt := 37) S.1 S.2.1 dX3_has_30 (by decide) (fun c_30 => ?_) (fun c_30 => ?_)
    · skip
      refine lv_iconst (v := (nI 0)) S.1 S.2.1 dX3_has_37 (by decide) ?_
      exact ret _ _ _ _ _ _ _ _ hG ⟨rfl, bI_f (decide_eq_false fun q => c_30 q.2)⟩ rfl (Nat.le_of_ble_eq_true rfl) (Nat.le_of_ble_eq_true rfl) dX3_has_38
    · skip
      refine lv_iconst (v := (nI 1)) S.1 S.2.1 dX3_has_33 (by decide) ?_
      refine lv_goto (tgt := 38) S.1 S.2.1 dX3_has_34 (by decide) ?_
      exact ret _ _ _ _ _ _ _ _ hG ⟨rfl, bI_t (decide_eq_true ⟨by omega, c_30⟩)⟩ rfl (Nat.le_of_ble_eq_true rfl) (Nat.le_of_ble_eq_true rfl) dX3_has_38

set_option maxHeartbeats 4000000 in
set_option maxRecDepth 100000 in
theorem c_X3_upTo (l : Launch) (G : Gx) (ad : Nat → Nat) (s0 : Nat) (f : Nat → va_E) (cd : Nat) (K V : Nat → Int32) (sz : Nat → Nat) (th : Nat → Bool) (pl : Nat → Int) (dn : Nat → Bool) (j : Nat) (key : Int32) (hM : MB G ad f cd K V sz th pl dn) (hj : j < 21) (hn : sz j ≤ 600) : mI l yX3_upTo wsX3_upTo 2 46 0 0 [.ref (ad 76), .int (nI j), .int key] G 84 ad s0 f (fun r f' => f = f' ∧ r = nI (upt (sz j) (of K j) key)) := by
  refine ov_mI (cc := cX3_upTo) (maxL := 3) (ty := .int) (by decide) rfl (Nat.le_of_ble_eq_true rfl) ?_
  intro p e s m below meth c av Q S ret hG ls hl
  have S : CallFix p m c cX3_upTo 3 s av wsX3_upTo RX3 := S
  have hl : lv_has ls 3 [(0, .ref (ad 76)), (1, .int (nI j)), (2, .int key)] := hl
  refine lv_aload_n S.1 S.2.1 dX3_upTo_0 rfl (lv_at hl 0 rfl) ?_
  refine lv_iload_n S.1 S.2.1 dX3_upTo_1 rfl (lv_at hl 1 rfl) ?_
  refine lv_iload_n S.1 S.2.1 dX3_upTo_2 rfl (lv_at hl 2 rfl) ?_
  refine o_cVi S (rest := []) (c_X3_below l G ad s0 f cd K V sz th pl dn j key hM (by omega) (by omega)) (cwV 2 S.2.2.2.2 gX3_upTo_X3_below rfl rfl rfl (by decide +kernel) ⟨(Nat.le_of_ble_eq_true rfl), (Nat.le_of_ble_eq_true rfl)⟩) hG (by decide) hM.1 rfl rfl hl.1 rfl (Nat.le_of_ble_eq_true rfl) dX3_upTo_3 ⟨(Nat.le_of_ble_eq_true rfl), (Nat.le_of_ble_eq_true rfl)⟩ (fun r9 f9 H locs hp hG => ?_)
  obtain ⟨rfl, rfl⟩ := hp
  have lb_1 := bel_le (sz j) (of K j) key
  refine lv_aload_n S.1 S.2.1 dX3_upTo_6 rfl (lv_at hl 0 rfl) ?_
  refine lv_iload_n S.1 S.2.1 dX3_upTo_7 rfl (lv_at hl 1 rfl) ?_
  refine lv_iload_n S.1 S.2.1 dX3_upTo_8 rfl (lv_at hl 2 rfl) ?_
  refine o_cVi S (rest := [.int (nI (bel (sz j) (of K j) key))]) (c_X3_has l G ad s0 f cd K V sz th pl dn j key hM (by omega) (by omega)) (cwV 2 S.2.2.2.2 gX3_upTo_X3_has rfl rfl rfl (by decide +kernel) ⟨(Nat.le_of_ble_eq_true rfl), (Nat.le_of_ble_eq_true rfl)⟩) hG (by decide) hM.1 rfl rfl hl.1 rfl (Nat.le_of_ble_eq_true rfl) dX3_upTo_9 ⟨(Nat.le_of_ble_eq_true rfl), (Nat.le_of_ble_eq_true rfl)⟩ (fun r9 f9 H locs hp hG => ?_)
  obtain ⟨rfl, rfl⟩ := hp
  refine b_if_eq S (b := (hs (sz j) (of K j) key)) (tgt := 19) dX3_upTo_12 (by decide) (fun c_12 => ?_) (fun c_12 => ?_)
  · skip
    refine lv_iconst (v := (nI 0)) S.1 S.2.1 dX3_upTo_19 (by decide) ?_
    refine o_add S (a := bel (sz j) (of K j) key) (b := 0) dX3_upTo_20 ?_
    exact ret _ _ _ _ _ _ _ _ hG ⟨rfl, by unfold upt; rw [ha_bel hn, if_neg (Bool.eq_false_iff.mp c_12), Nat.add_zero]⟩ rfl (Nat.le_of_ble_eq_true rfl) (Nat.le_of_ble_eq_true rfl) dX3_upTo_21
  · skip
    refine lv_iconst (v := (nI 1)) S.1 S.2.1 dX3_upTo_15 (by decide) ?_
    refine lv_goto (tgt := 20) S.1 S.2.1 dX3_upTo_16 (by decide) ?_
    refine o_add S (a := bel (sz j) (of K j) key) (b := 1) dX3_upTo_20 ?_
    exact ret _ _ _ _ _ _ _ _ hG ⟨rfl, by unfold upt; rw [ha_bel hn, if_pos c_12]⟩ rfl (Nat.le_of_ble_eq_true rfl) (Nat.le_of_ble_eq_true rfl) dX3_upTo_21

set_option maxHeartbeats 4000000 in
set_option maxRecDepth 100000 in
theorem c_X3_insert (l : Launch) (G : Gx) (ad : Nat → Nat) (s0 : Nat) (f : Nat → va_E) (cd : Nat) (K V : Nat → Int32) (sz : Nat → Nat) (th : Nat → Bool) (pl : Nat → Int) (dn : Nat → Bool) (key w : Int32) (hM : MB G ad f cd K V sz th pl dn) (hn : sz 0 < 600) : mV l yX3_insert wsX3_insert 1 23 0 0 [.ref (ad 76), .int key, .int w] G 84 ad s0 f (fun f' => OnM f f' ∧ ∃ K2 V2, MB G ad f' cd K2 V2 (va_up sz 0 (sz 0 + 1)) th pl dn ∧ (∀ i, i < sz 0 + 1 → K2 i = insF K (bel (sz 0) (of K 0) key) key i ∧ V2 i = insF V (bel (sz 0) (of K 0) key) w i) ∧ ∀ i, 600 ≤ i → K2 i = K i ∧ V2 i = V i) := by
  refine ov_mV (cc := cX3_insert) (maxL := 5) (by decide) rfl (Nat.le_of_ble_eq_true rfl) ?_
  intro p e s m below meth c av Q S ret hG ls hl
  have S : CallFix p m c cX3_insert 5 s av wsX3_insert RX3 := S
  have hl : lv_has ls 5 [(0, .ref (ad 76)), (1, .int key), (2, .int w)] := hl
  have i_X3 : ∀ w ∈ u_ws RX3 TX3 7, w ∈ wsX3_insert := by decide +kernel
  have kf_7 := S.2.2.2.2 (.fieldLink RX3 7 "OrderedVersionsModel" "keys" "[I") (by decide +kernel)
  have kf_13 := S.2.2.2.2 (.fieldLink RX3 13 "OrderedVersionsModel" "values" "[I") (by decide +kernel)
  have kf_16 := S.2.2.2.2 (.fieldLink RX3 16 "OrderedVersionsModel" "sizes" "[I") (by decide +kernel)
  have hO : OnM f f := OnM.rf
  refine lv_aload_n S.1 S.2.1 dX3_insert_0 rfl (lv_at hl 0 rfl) ?_
  refine lv_iconst (v := (nI 0)) S.1 S.2.1 dX3_insert_1 (by decide) ?_
  refine lv_iload_n S.1 S.2.1 dX3_insert_2 rfl (lv_at hl 1 rfl) ?_
  refine o_cVi S (rest := []) (c_X3_below l G ad s0 f cd K V sz th pl dn 0 key hM (by omega) (by omega)) (cwV 2 S.2.2.2.2 gX3_insert_X3_below rfl rfl rfl (by decide +kernel) ⟨(Nat.le_of_ble_eq_true rfl), (Nat.le_of_ble_eq_true rfl)⟩) hG (by decide) hM.1 rfl rfl hl.1 rfl (Nat.le_of_ble_eq_true rfl) dX3_insert_3 ⟨(Nat.le_of_ble_eq_true rfl), (Nat.le_of_ble_eq_true rfl)⟩ (fun r9 f9 H locs hp hG => ?_)
  obtain ⟨rfl, rfl⟩ := hp
  have lb_1 := bel_le (sz 0) (of K 0) key
  refine lv_istore_n (lv' := [(3, .int (nI (bel (sz 0) (of K 0) key))), (0, .ref (ad 76)), (1, .int key), (2, .int w)]) S.1 S.2.1 dX3_insert_6 rfl hl (by decide) rfl (fun ls hl => ?_)
  refine lv_aload_n S.1 S.2.1 dX3_insert_7 rfl (lv_at hl 1 rfl) ?_
  refine o_get S hG i_X3 (by decide) hM.1 rfl 3 (by decide) kf_16 rfl dX3_insert_8 ?_
  refine lv_iconst (v := (nI 0)) S.1 S.2.1 dX3_insert_11 (by decide) ?_
  refine o_iald S hG (j := 0) (by decide) hM.2.2.2.1 (by omega) dX3_insert_12 (kk := ?_)
  refine lv_istore (lv' := [(4, .int (nI (sz 0))), (3, .int (nI (bel (sz 0) (of K 0) key))), (0, .ref (ad 76)), (1, .int key), (2, .int w)]) S.1 S.2.1 dX3_insert_13 hl (by decide) rfl (fun ls hl => ?_)
  have L_15 : ∀ (d9 : Nat) (z : Nat) (kk : Nat → Int32) (vv : Nat → Int32) (f2 : Nat → va_E) (H : Heap) (locs : List Loc), (MB G ad f2 cd kk vv sz th pl dn) → (OnM f f2) → (bel (sz 0) (of K 0) key ≤ z ∧ z ≤ sz 0) → (ShU K kk z (sz 0)) → (ShU V vv z (sz 0)) → z < d9 → ov_dy G 84 ad s0 s f2 H locs → ∀ ls : Array Slot, lv_has ls 5 [(0, .ref (ad 76)), (1, .int key), (2, .int w), (3, .int (nI (bel (sz 0) (of K 0) key))), (4, .int (nI z))] → W p l e (ov_rm 1 23 0 0) s m av below meth c H locs 0 0 Q (F0 m 15 ls []) := by
    intro d9
    induction d9 with
    | zero => intro z kk vv f2 H locs hM hO hz hk hv h9; exact absurd h9 (Nat.not_lt_zero _)
    | succ d9 ih_15 =>
      intro z kk vv f2 H locs hM hO hz hk hv h9 hG ls hl
      refine lv_iload S.1 S.2.1 dX3_insert_15 (lv_at hl 4 rfl) ?_
      refine lv_iload_n S.1 S.2.1 dX3_insert_17 rfl (lv_at hl 3 rfl) ?_
      refine n_le S (a := z) (b := bel (sz 0) (of K 0) key) (tgt := 59) dX3_insert_18 (by decide) (by omega) (by omega) (fun c_18 => ?_) (fun c_18 => ?_)
      · skip
        obtain rfl : z = bel (sz 0) (of K 0) key := by omega
        have hke := ShU_e (x := key) hk hz.2
        have hve := ShU_e (x := w) hv hz.2
        refine lv_aload_n S.1 S.2.1 dX3_insert_59 rfl (lv_at hl 0 rfl) ?_
        refine o_get S hG i_X3 (by decide) hM.1 rfl 1 (by decide) kf_7 rfl dX3_insert_60 ?_
        refine lv_iload_n S.1 S.2.1 dX3_insert_63 rfl (lv_at hl 3 rfl) ?_
        refine lv_iload_n S.1 S.2.1 dX3_insert_64 rfl (lv_at hl 1 rfl) ?_
        refine o_iast S hG (j := bel (sz 0) (of K 0) key) (by decide) hM.2.1 (by omega) dX3_insert_65 (kk := fun H locs hG => ?_)
        obtain ⟨f_2, ef_2, hG⟩ := ov_name hG
        have hM := hM.uK ef_2
        have hO := hO.up ef_2 (by decide)
        refine lv_aload_n S.1 S.2.1 dX3_insert_66 rfl (lv_at hl 0 rfl) ?_
        refine o_get S hG i_X3 (by decide) hM.1 rfl 2 (by decide) kf_13 rfl dX3_insert_67 ?_
        refine lv_iload_n S.1 S.2.1 dX3_insert_70 rfl (lv_at hl 3 rfl) ?_
        refine lv_iload_n S.1 S.2.1 dX3_insert_71 rfl (lv_at hl 2 rfl) ?_
        refine o_iast S hG (j := bel (sz 0) (of K 0) key) (by decide) hM.2.2.1 (by omega) dX3_insert_72 (kk := fun H locs hG => ?_)
        obtain ⟨f_3, ef_3, hG⟩ := ov_name hG
        have hM := hM.uV ef_3
        have hO := hO.up ef_3 (by decide)
        refine lv_aload_n S.1 S.2.1 dX3_insert_73 rfl (lv_at hl 0 rfl) ?_
        refine o_get S hG i_X3 (by decide) hM.1 rfl 3 (by decide) kf_16 rfl dX3_insert_74 ?_
        refine lv_iconst (v := (nI 0)) S.1 S.2.1 dX3_insert_77 (by decide) ?_
        refine lv_dup2_11 S.1 S.2.1 dX3_insert_78 rfl rfl ?_
        refine o_iald S hG (j := 0) (by decide) hM.2.2.2.1 (by omega) dX3_insert_79 (kk := ?_)
        refine lv_iconst (v := (nI 1)) S.1 S.2.1 dX3_insert_80 (by decide) ?_
        refine o_add S (a := sz 0) (b := 1) dX3_insert_81 ?_
        refine o_iast S hG (j := 0) (by decide) hM.2.2.2.1 (by omega) dX3_insert_82 (kk := fun H locs hG => ?_)
        obtain ⟨f_4, ef_4, hG⟩ := ov_name hG
        have hM := hM.uZ (j := 0) (n := (sz 0) + 1) ef_4
        have hO := hO.up ef_4 (by decide)
        exact ret _ _ _ _ _ _ _ hG ⟨hO, _, _, hM, fun i hi => ⟨hke.1 i hi, hve.1 i hi⟩, fun i hi => ⟨hke.2 i (by omega), hve.2 i (by omega)⟩⟩ (Nat.le_of_ble_eq_true rfl) (Nat.le_of_ble_eq_true rfl) dX3_insert_83
      · skip
        refine lv_aload_n S.1 S.2.1 dX3_insert_21 rfl (lv_at hl 0 rfl) ?_
        refine o_get S hG i_X3 (by decide) hM.1 rfl 1 (by decide) kf_7 rfl dX3_insert_22 ?_
        refine lv_iload S.1 S.2.1 dX3_insert_25 (lv_at hl 4 rfl) ?_
        refine lv_aload_n S.1 S.2.1 dX3_insert_27 rfl (lv_at hl 0 rfl) ?_
        refine o_get S hG i_X3 (by decide) hM.1 rfl 1 (by decide) kf_7 rfl dX3_insert_28 ?_
        refine lv_iload S.1 S.2.1 dX3_insert_31 (lv_at hl 4 rfl) ?_
        refine lv_iconst (v := (nI 1)) S.1 S.2.1 dX3_insert_33 (by decide) ?_
        refine o_sub S (a := z) (b := 1) dX3_insert_34 (by omega) ?_
        refine o_iald S hG (j := z - 1) (by decide) hM.2.1 (by omega) dX3_insert_35 (kk := ?_)
        refine o_iast S hG (j := z) (by decide) hM.2.1 (by omega) dX3_insert_36 (kk := fun H locs hG => ?_)
        obtain ⟨f_5, ef_5, hG⟩ := ov_name hG
        have hM := hM.uK ef_5
        have hO := hO.up ef_5 (by decide)
        refine lv_aload_n S.1 S.2.1 dX3_insert_37 rfl (lv_at hl 0 rfl) ?_
        refine o_get S hG i_X3 (by decide) hM.1 rfl 2 (by decide) kf_13 rfl dX3_insert_38 ?_
        refine lv_iload S.1 S.2.1 dX3_insert_41 (lv_at hl 4 rfl) ?_
        refine lv_aload_n S.1 S.2.1 dX3_insert_43 rfl (lv_at hl 0 rfl) ?_
        refine o_get S hG i_X3 (by decide) hM.1 rfl 2 (by decide) kf_13 rfl dX3_insert_44 ?_
        refine lv_iload S.1 S.2.1 dX3_insert_47 (lv_at hl 4 rfl) ?_
        refine lv_iconst (v := (nI 1)) S.1 S.2.1 dX3_insert_49 (by decide) ?_
        refine o_sub S (a := z) (b := 1) dX3_insert_50 (by omega) ?_
        refine o_iald S hG (j := z - 1) (by decide) hM.2.2.1 (by omega) dX3_insert_51 (kk := ?_)
        refine o_iast S hG (j := z) (by decide) hM.2.2.1 (by omega) dX3_insert_52 (kk := fun H locs hG => ?_)
        obtain ⟨f_6, ef_6, hG⟩ := ov_name hG
        have hM := hM.uV ef_6
        have hO := hO.up ef_6 (by decide)
        refine lv_iinc (v := (nI (z - 1))) (lv' := [(4, .int (nI (z - 1))), (0, .ref (ad 76)), (1, .int key), (2, .int w), (3, .int (nI (bel (sz 0) (of K 0) key)))]) S.1 S.2.1 dX3_insert_53 hl (k := 4) rfl (nI_dec (by omega)) (by decide) rfl (fun ls hl => ?_)
        refine lv_goto (tgt := 15) S.1 S.2.1 dX3_insert_56 (by decide) ?_
        exact ih_15 (z - 1) (upd kk z (kk (z - 1))) (upd vv z (vv (z - 1))) f_6 _ _ hM hO (by omega) (ShU_s hk (by omega) hz.2) (ShU_s hv (by omega) hz.2) (by omega) hG ls (lv_sub hl [1, 2, 3, 4, 0] rfl)
  exact L_15 _ (sz 0) K V f _ _ hM hO (by omega) ShU_0 ShU_0 (Nat.lt_succ_self _) hG ls (lv_sub hl [2, 3, 4, 1, 0] rfl)

theorem ShD_e {k kk : Nat → Int32} {a d z i : Nat} (h : ShD k kk a d z) (hi : i < z ∨ i < a) : kk i = delF k a d i := by
  simp only [delF]
  by_cases g : i < a
  · rw [if_pos g]; exact h.1 i g
  · rw [if_neg g]; exact h.2.1 i (by omega) (by omega)

set_option maxHeartbeats 4000000 in
set_option maxRecDepth 100000 in
theorem c_X3_takeOut (l : Launch) (G : Gx) (ad : Nat → Nat) (s0 : Nat) (f : Nat → va_E) (cd : Nat) (K V : Nat → Int32) (sz : Nat → Nat) (th : Nat → Bool) (pl : Nat → Int) (dn : Nat → Bool) (a d : Nat) (hM : MB G ad f cd K V sz th pl dn) (hn : sz 0 ≤ 600) (had : a + d ≤ sz 0) : mV l yX3_takeOut wsX3_takeOut 0 0 0 0 [.ref (ad 76), .int (nI a), .int (nI d)] G 84 ad s0 f (fun f' => OnM f f' ∧ ∃ K2 V2, MB G ad f' cd K2 V2 (va_up sz 0 (sz 0 - d)) th pl dn ∧ (∀ i, i < sz 0 - d → K2 i = delF K a d i ∧ V2 i = delF V a d i) ∧ ∀ i, 600 ≤ i → K2 i = K i ∧ V2 i = V i) := by
  refine ov_mV (cc := cX3_takeOut) (maxL := 4) (by decide) rfl (Nat.le_of_ble_eq_true rfl) ?_
  intro p e s m below meth c av Q S ret hG ls hl
  have S : CallFix p m c cX3_takeOut 4 s av wsX3_takeOut RX3 := S
  have hl : lv_has ls 4 [(0, .ref (ad 76)), (1, .int (nI a)), (2, .int (nI d))] := hl
  have i_X3 : ∀ w ∈ u_ws RX3 TX3 7, w ∈ wsX3_takeOut := by decide +kernel
  have kf_7 := S.2.2.2.2 (.fieldLink RX3 7 "OrderedVersionsModel" "keys" "[I") (by decide +kernel)
  have kf_13 := S.2.2.2.2 (.fieldLink RX3 13 "OrderedVersionsModel" "values" "[I") (by decide +kernel)
  have kf_16 := S.2.2.2.2 (.fieldLink RX3 16 "OrderedVersionsModel" "sizes" "[I") (by decide +kernel)
  have hO : OnM f f := OnM.rf
  refine lv_iload_n S.1 S.2.1 dX3_takeOut_0 rfl (lv_at hl 1 rfl) ?_
  refine lv_istore_n (lv' := [(3, .int (nI a)), (0, .ref (ad 76)), (1, .int (nI a)), (2, .int (nI d))]) S.1 S.2.1 dX3_takeOut_1 rfl hl (by decide) rfl (fun ls hl => ?_)
  have L_2 : ∀ (d9 : Nat) (z : Nat) (kk : Nat → Int32) (vv : Nat → Int32) (f2 : Nat → va_E) (H : Heap) (locs : List Loc), (MB G ad f2 cd kk vv sz th pl dn) → (OnM f f2) → (a ≤ z ∧ z + d ≤ sz 0) → (ShD K kk a d z) → (ShD V vv a d z) → (sz 0 - z) < d9 → ov_dy G 84 ad s0 s f2 H locs → ∀ ls : Array Slot, lv_has ls 4 [(0, .ref (ad 76)), (1, .int (nI a)), (2, .int (nI d)), (3, .int (nI z))] → W p l e (ov_rm 0 0 0 0) s m av below meth c H locs 0 0 Q (F0 m 2 ls []) := by
    intro d9
    induction d9 with
    | zero => intro z kk vv f2 H locs hM hO hz hk hv h9; exact absurd h9 (Nat.not_lt_zero _)
    | succ d9 ih_2 =>
      intro z kk vv f2 H locs hM hO hz hk hv h9 hG ls hl
      refine lv_iload_n S.1 S.2.1 dX3_takeOut_2 rfl (lv_at hl 3 rfl) ?_
      refine lv_iload_n S.1 S.2.1 dX3_takeOut_3 rfl (lv_at hl 2 rfl) ?_
      refine o_add S (a := z) (b := d) dX3_takeOut_4 ?_
      refine lv_aload_n S.1 S.2.1 dX3_takeOut_5 rfl (lv_at hl 0 rfl) ?_
      refine o_get S hG i_X3 (by decide) hM.1 rfl 3 (by decide) kf_16 rfl dX3_takeOut_6 ?_
      refine lv_iconst (v := (nI 0)) S.1 S.2.1 dX3_takeOut_9 (by decide) ?_
      refine o_iald S hG (j := 0) (by decide) hM.2.2.2.1 (by omega) dX3_takeOut_10 (kk := ?_)
      refine n_ge S (a := z + d) (b := sz 0) (tgt := 48) dX3_takeOut_11 (by decide) (by omega) (by omega) (fun c_11 => ?_) (fun c_11 => ?_)
      · skip
        refine lv_aload_n S.1 S.2.1 dX3_takeOut_48 rfl (lv_at hl 0 rfl) ?_
        refine o_get S hG i_X3 (by decide) hM.1 rfl 3 (by decide) kf_16 rfl dX3_takeOut_49 ?_
        refine lv_iconst (v := (nI 0)) S.1 S.2.1 dX3_takeOut_52 (by decide) ?_
        refine lv_dup2_11 S.1 S.2.1 dX3_takeOut_53 rfl rfl ?_
        refine o_iald S hG (j := 0) (by decide) hM.2.2.2.1 (by omega) dX3_takeOut_54 (kk := ?_)
        refine lv_iload_n S.1 S.2.1 dX3_takeOut_55 rfl (lv_at hl 2 rfl) ?_
        refine o_sub S (a := sz 0) (b := d) dX3_takeOut_56 (by omega) ?_
        refine o_iast S hG (j := 0) (by decide) hM.2.2.2.1 (by omega) dX3_takeOut_57 (kk := fun H locs hG => ?_)
        obtain ⟨f_1, ef_1, hG⟩ := ov_name hG
        have hM := hM.uZ (j := 0) (n := (sz 0) - d) ef_1
        have hO := hO.up ef_1 (by decide)
        exact ret _ _ _ _ _ _ _ hG ⟨hO, _, _, hM, fun i hi => ⟨ShD_e hk (by omega), ShD_e hv (by omega)⟩, fun i hi => ⟨hk.2.2 i (by omega), hv.2.2 i (by omega)⟩⟩ (Nat.le_of_ble_eq_true rfl) (Nat.le_of_ble_eq_true rfl) dX3_takeOut_58
      · skip
        refine lv_aload_n S.1 S.2.1 dX3_takeOut_14 rfl (lv_at hl 0 rfl) ?_
        refine o_get S hG i_X3 (by decide) hM.1 rfl 1 (by decide) kf_7 rfl dX3_takeOut_15 ?_
        refine lv_iload_n S.1 S.2.1 dX3_takeOut_18 rfl (lv_at hl 3 rfl) ?_
        refine lv_aload_n S.1 S.2.1 dX3_takeOut_19 rfl (lv_at hl 0 rfl) ?_
        refine o_get S hG i_X3 (by decide) hM.1 rfl 1 (by decide) kf_7 rfl dX3_takeOut_20 ?_
        refine lv_iload_n S.1 S.2.1 dX3_takeOut_23 rfl (lv_at hl 3 rfl) ?_
        refine lv_iload_n S.1 S.2.1 dX3_takeOut_24 rfl (lv_at hl 2 rfl) ?_
        refine o_add S (a := z) (b := d) dX3_takeOut_25 ?_
        refine o_iald S hG (j := z + d) (by decide) hM.2.1 (by omega) dX3_takeOut_26 (kk := ?_)
        refine o_iast S hG (j := z) (by decide) hM.2.1 (by omega) dX3_takeOut_27 (kk := fun H locs hG => ?_)
        obtain ⟨f_2, ef_2, hG⟩ := ov_name hG
        have hM := hM.uK ef_2
        have hO := hO.up ef_2 (by decide)
        refine lv_aload_n S.1 S.2.1 dX3_takeOut_28 rfl (lv_at hl 0 rfl) ?_
        refine o_get S hG i_X3 (by decide) hM.1 rfl 2 (by decide) kf_13 rfl dX3_takeOut_29 ?_
        refine lv_iload_n S.1 S.2.1 dX3_takeOut_32 rfl (lv_at hl 3 rfl) ?_
        refine lv_aload_n S.1 S.2.1 dX3_takeOut_33 rfl (lv_at hl 0 rfl) ?_
        refine o_get S hG i_X3 (by decide) hM.1 rfl 2 (by decide) kf_13 rfl dX3_takeOut_34 ?_
        refine lv_iload_n S.1 S.2.1 dX3_takeOut_37 rfl (lv_at hl 3 rfl) ?_
        refine lv_iload_n S.1 S.2.1 dX3_takeOut_38 rfl (lv_at hl 2 rfl) ?_
        refine o_add S (a := z) (b := d) dX3_takeOut_39 ?_
        refine o_iald S hG (j := z + d) (by decide) hM.2.2.1 (by omega) dX3_takeOut_40 (kk := ?_)
        refine o_iast S hG (j := z) (by decide) hM.2.2.1 (by omega) dX3_takeOut_41 (kk := fun H locs hG => ?_)
        obtain ⟨f_3, ef_3, hG⟩ := ov_name hG
        have hM := hM.uV ef_3
        have hO := hO.up ef_3 (by decide)
        refine lv_iinc (v := (nI (z + 1))) (lv' := [(3, .int (nI (z + 1))), (0, .ref (ad 76)), (1, .int (nI a)), (2, .int (nI d))]) S.1 S.2.1 dX3_takeOut_42 hl (k := 3) rfl (nI_add z 1) (by decide) rfl (fun ls hl => ?_)
        refine lv_goto (tgt := 2) S.1 S.2.1 dX3_takeOut_45 (by decide) ?_
        exact ih_2 (z + 1) (upd kk z (kk (z + d))) (upd vv z (vv (z + d))) f_3 _ _ hM hO (by omega) (ShD_s hk hz.1) (ShD_s hv hz.1) (by omega) hG ls (lv_sub hl [1, 2, 3, 0] rfl)
  exact L_2 _ a K V f _ _ hM hO (by omega) ShD_0 ShD_0 (Nat.lt_succ_self _) hG ls (lv_sub hl [1, 2, 3, 0] rfl)

set_option maxHeartbeats 4000000 in
set_option maxRecDepth 100000 in
theorem c_X3_copy (l : Launch) (G : Gx) (ad : Nat → Nat) (s0 : Nat) (f : Nat → va_E) (cd : Nat) (K V : Nat → Int32) (sz : Nat → Nat) (th : Nat → Bool) (pl : Nat → Int) (dn : Nat → Bool) (j d : Nat) (hM : MB G ad f cd K V sz th pl dn) (hj : j < 21) (hd : d < 21) (hjd : j ≠ d) (hn : sz j ≤ 600) : mV l yX3_copy wsX3_copy 0 0 0 0 [.ref (ad 76), .int (nI j), .int (nI d)] G 84 ad s0 f (fun f' => OnM f f' ∧ ∃ K2 V2, MB G ad f' cd K2 V2 (va_up sz d (sz j)) th pl dn ∧ (∀ i, i < sz j → K2 (600 * d + i) = K (600 * j + i) ∧ V2 (600 * d + i) = V (600 * j + i)) ∧ ∀ x, x < 600 * d ∨ 600 * d + 600 ≤ x → K2 x = K x ∧ V2 x = V x) := by
  refine ov_mV (cc := cX3_copy) (maxL := 4) (by decide) rfl (Nat.le_of_ble_eq_true rfl) ?_
  intro p e s m below meth c av Q S ret hG ls hl
  have S : CallFix p m c cX3_copy 4 s av wsX3_copy RX3 := S
  have hl : lv_has ls 4 [(0, .ref (ad 76)), (1, .int (nI j)), (2, .int (nI d))] := hl
  have i_X3 : ∀ w ∈ u_ws RX3 TX3 7, w ∈ wsX3_copy := by decide +kernel
  have kf_7 := S.2.2.2.2 (.fieldLink RX3 7 "OrderedVersionsModel" "keys" "[I") (by decide +kernel)
  have kf_13 := S.2.2.2.2 (.fieldLink RX3 13 "OrderedVersionsModel" "values" "[I") (by decide +kernel)
  have kf_16 := S.2.2.2.2 (.fieldLink RX3 16 "OrderedVersionsModel" "sizes" "[I") (by decide +kernel)
  have hO : OnM f f := OnM.rf
  refine lv_aload_n S.1 S.2.1 dX3_copy_0 rfl (lv_at hl 0 rfl) ?_
  refine o_get S hG i_X3 (by decide) hM.1 rfl 3 (by decide) kf_16 rfl dX3_copy_1 ?_
  refine lv_iload_n S.1 S.2.1 dX3_copy_4 rfl (lv_at hl 2 rfl) ?_
  refine lv_aload_n S.1 S.2.1 dX3_copy_5 rfl (lv_at hl 0 rfl) ?_
  refine o_get S hG i_X3 (by decide) hM.1 rfl 3 (by decide) kf_16 rfl dX3_copy_6 ?_
  refine lv_iload_n S.1 S.2.1 dX3_copy_9 rfl (lv_at hl 1 rfl) ?_
  refine o_iald S hG (j := j) (by decide) hM.2.2.2.1 (by omega) dX3_copy_10 (kk := ?_)
  refine o_iast S hG (j := d) (by decide) hM.2.2.2.1 (by omega) dX3_copy_11 (kk := fun H locs hG => ?_)
  obtain ⟨f_1, ef_1, hG⟩ := ov_name hG
  have hM := hM.uZ (j := d) (n := sz j) ef_1
  have hO := hO.up ef_1 (by decide)
  refine lv_iconst (v := (nI 0)) S.1 S.2.1 dX3_copy_12 (by decide) ?_
  refine lv_istore_n (lv' := [(3, .int (nI 0)), (0, .ref (ad 76)), (1, .int (nI j)), (2, .int (nI d))]) S.1 S.2.1 dX3_copy_13 rfl hl (by decide) rfl (fun ls hl => ?_)
  have L_14 : ∀ (d9 : Nat) (z : Nat) (kk : Nat → Int32) (vv : Nat → Int32) (f2 : Nat → va_E) (H : Heap) (locs : List Loc), (MB G ad f2 cd kk vv (va_up sz d (sz j)) th pl dn) → (OnM f f2) → (z ≤ sz j) → (CpU K kk j d z) → (CpU V vv j d z) → (sz j - z) < d9 → ov_dy G 84 ad s0 s f2 H locs → ∀ ls : Array Slot, lv_has ls 4 [(0, .ref (ad 76)), (1, .int (nI j)), (2, .int (nI d)), (3, .int (nI z))] → W p l e (ov_rm 0 0 0 0) s m av below meth c H locs 0 0 Q (F0 m 14 ls []) := by
    intro d9
    induction d9 with
    | zero => intro z kk vv f2 H locs hM hO hz hk hv h9; exact absurd h9 (Nat.not_lt_zero _)
    | succ d9 ih_14 =>
      intro z kk vv f2 H locs hM hO hz hk hv h9 hG ls hl
      refine lv_iload_n S.1 S.2.1 dX3_copy_14 rfl (lv_at hl 3 rfl) ?_
      refine lv_aload_n S.1 S.2.1 dX3_copy_15 rfl (lv_at hl 0 rfl) ?_
      refine o_get S hG i_X3 (by decide) hM.1 rfl 3 (by decide) kf_16 rfl dX3_copy_16 ?_
      refine lv_iload_n S.1 S.2.1 dX3_copy_19 rfl (lv_at hl 1 rfl) ?_
      refine o_iald S hG (j := j) (by decide) hM.2.2.2.1 (by omega) dX3_copy_20 (kk := ?_)
      refine o_top (congrArg nI (va_up_ne sz _ hjd)) ?_
      refine n_ge S (a := z) (b := sz j) (tgt := 78) dX3_copy_21 (by decide) (by omega) (by omega) (fun c_21 => ?_) (fun c_21 => ?_)
      · skip
        exact ret _ _ _ _ _ _ _ hG ⟨hO, _, _, hM, fun i hi => ⟨hk.1 i (by omega), hv.1 i (by omega)⟩, fun x hx => ⟨hk.2 x (by omega), hv.2 x (by omega)⟩⟩ (Nat.le_of_ble_eq_true rfl) (Nat.le_of_ble_eq_true rfl) dX3_copy_78
      · skip
        refine lv_aload_n S.1 S.2.1 dX3_copy_24 rfl (lv_at hl 0 rfl) ?_
        refine o_get S hG i_X3 (by decide) hM.1 rfl 1 (by decide) kf_7 rfl dX3_copy_25 ?_
        refine lv_sipush (v := (nI 600)) S.1 S.2.1 dX3_copy_28 (by decide) ?_
        refine lv_iload_n S.1 S.2.1 dX3_copy_31 rfl (lv_at hl 2 rfl) ?_
        refine o_mul S (a := 600) (b := d) dX3_copy_32 ?_
        refine lv_iload_n S.1 S.2.1 dX3_copy_33 rfl (lv_at hl 3 rfl) ?_
        refine o_add S (a := 600 * d) (b := z) dX3_copy_34 ?_
        refine lv_aload_n S.1 S.2.1 dX3_copy_35 rfl (lv_at hl 0 rfl) ?_
        refine o_get S hG i_X3 (by decide) hM.1 rfl 1 (by decide) kf_7 rfl dX3_copy_36 ?_
        refine lv_sipush (v := (nI 600)) S.1 S.2.1 dX3_copy_39 (by decide) ?_
        refine lv_iload_n S.1 S.2.1 dX3_copy_42 rfl (lv_at hl 1 rfl) ?_
        refine o_mul S (a := 600) (b := j) dX3_copy_43 ?_
        refine lv_iload_n S.1 S.2.1 dX3_copy_44 rfl (lv_at hl 3 rfl) ?_
        refine o_add S (a := 600 * j) (b := z) dX3_copy_45 ?_
        refine o_iald S hG (j := (600 * j) + z) (by decide) hM.2.1 (by omega) dX3_copy_46 (kk := ?_)
        refine o_iast S hG (j := (600 * d) + z) (by decide) hM.2.1 (by omega) dX3_copy_47 (kk := fun H locs hG => ?_)
        obtain ⟨f_2, ef_2, hG⟩ := ov_name hG
        have hM := hM.uK ef_2
        have hO := hO.up ef_2 (by decide)
        refine lv_aload_n S.1 S.2.1 dX3_copy_48 rfl (lv_at hl 0 rfl) ?_
        refine o_get S hG i_X3 (by decide) hM.1 rfl 2 (by decide) kf_13 rfl dX3_copy_49 ?_
        refine lv_sipush (v := (nI 600)) S.1 S.2.1 dX3_copy_52 (by decide) ?_
        refine lv_iload_n S.1 S.2.1 dX3_copy_55 rfl (lv_at hl 2 rfl) ?_
        refine o_mul S (a := 600) (b := d) dX3_copy_56 ?_
        refine lv_iload_n S.1 S.2.1 dX3_copy_57 rfl (lv_at hl 3 rfl) ?_
        refine o_add S (a := 600 * d) (b := z) dX3_copy_58 ?_
        refine lv_aload_n S.1 S.2.1 dX3_copy_59 rfl (lv_at hl 0 rfl) ?_
        refine o_get S hG i_X3 (by decide) hM.1 rfl 2 (by decide) kf_13 rfl dX3_copy_60 ?_
        refine lv_sipush (v := (nI 600)) S.1 S.2.1 dX3_copy_63 (by decide) ?_
        refine lv_iload_n S.1 S.2.1 dX3_copy_66 rfl (lv_at hl 1 rfl) ?_
        refine o_mul S (a := 600) (b := j) dX3_copy_67 ?_
        refine lv_iload_n S.1 S.2.1 dX3_copy_68 rfl (lv_at hl 3 rfl) ?_
        refine o_add S (a := 600 * j) (b := z) dX3_copy_69 ?_
        refine o_iald S hG (j := (600 * j) + z) (by decide) hM.2.2.1 (by omega) dX3_copy_70 (kk := ?_)
        refine o_iast S hG (j := (600 * d) + z) (by decide) hM.2.2.1 (by omega) dX3_copy_71 (kk := fun H locs hG => ?_)
        obtain ⟨f_3, ef_3, hG⟩ := ov_name hG
        have hM := hM.uV ef_3
        have hO := hO.up ef_3 (by decide)
        refine lv_iinc (v := (nI (z + 1))) (lv' := [(3, .int (nI (z + 1))), (0, .ref (ad 76)), (1, .int (nI j)), (2, .int (nI d))]) S.1 S.2.1 dX3_copy_72 hl (k := 3) rfl (nI_add z 1) (by decide) rfl (fun ls hl => ?_)
        refine lv_goto (tgt := 14) S.1 S.2.1 dX3_copy_75 (by decide) ?_
        exact ih_14 (z + 1) (upd kk ((600 * d) + z) (kk ((600 * j) + z))) (upd vv ((600 * d) + z) (vv ((600 * j) + z))) f_3 _ _ hM hO (by omega) (CpU_s hk (by omega) hjd) (CpU_s hv (by omega) hjd) (by omega) hG ls (lv_sub hl [1, 2, 3, 0] rfl)
  exact L_14 _ 0 K V f_1 _ _ hM hO (Nat.zero_le _) CpU_0 CpU_0 (Nat.lt_succ_self _) hG ls (lv_sub hl [1, 2, 3, 0] rfl)

set_option maxHeartbeats 4000000 in
set_option maxRecDepth 100000 in
theorem c_X3_isVersion (l : Launch) (G : Gx) (ad : Nat → Nat) (s0 : Nat) (f : Nat → va_E) (cd : Nat) (K V : Nat → Int32) (sz : Nat → Nat) (th : Nat → Bool) (pl : Nat → Int) (dn : Nat → Bool) (v : Int32) (hM : MB G ad f cd K V sz th pl dn)  : mI l yX3_isVersion wsX3_isVersion 0 0 0 0 [.ref (ad 76), .int v] G 84 ad s0 f (fun r f' => f = f' ∧ r = bI (isv th v)) := by
  refine ov_mI (cc := cX3_isVersion) (maxL := 2) (ty := .boolean) (by decide) rfl (Nat.le_of_ble_eq_true rfl) ?_
  intro p e s m below meth c av Q S ret hG ls hl
  have S : CallFix p m c cX3_isVersion 2 s av wsX3_isVersion RX3 := S
  have hl : lv_has ls 2 [(0, .ref (ad 76)), (1, .int v)] := hl
  have i_X3 : ∀ w ∈ u_ws RX3 TX3 7, w ∈ wsX3_isVersion := by decide +kernel
  have kf_19 := S.2.2.2.2 (.fieldLink RX3 19 "OrderedVersionsModel" "there" "[Z") (by decide +kernel)
  refine lv_iload_n S.1 S.2.1 dX3_isVersion_0 rfl (lv_at hl 1 rfl) ?_
  refine lv_if_lt (tgt := 23) S.1 S.2.1 dX3_isVersion_1 (by decide) (fun c_1 => ?_) (fun c_1 => ?_)
  · skip
    refine lv_iconst (v := (nI 0)) S.1 S.2.1 dX3_isVersion_23 (by decide) ?_
    exact ret _ _ _ _ _ _ _ _ hG ⟨rfl, bI_f (isv_f1 c_1)⟩ rfl (Nat.le_of_ble_eq_true rfl) (Nat.le_of_ble_eq_true rfl) dX3_isVersion_24
  · skip
    refine lv_iload_n S.1 S.2.1 dX3_isVersion_4 rfl (lv_at hl 1 rfl) ?_
    refine lv_bipush (v := (nI 12)) S.1 S.2.1 dX3_isVersion_5 (by decide) ?_
    refine lv_icmp_gt (tgt := 23) S.1 S.2.1 dX3_isVersion_7 (by decide) (fun c_7 => ?_) (fun c_7 => ?_)
    · skip
      refine lv_iconst (v := (nI 0)) S.1 S.2.1 dX3_isVersion_23 (by decide) ?_
      exact ret _ _ _ _ _ _ _ _ hG ⟨rfl, bI_f (isv_f2 c_7)⟩ rfl (Nat.le_of_ble_eq_true rfl) (Nat.le_of_ble_eq_true rfl) dX3_isVersion_24
    · skip
      obtain ⟨j, hj, rfl⟩ := v_ex (by decide) c_1 c_7
      refine lv_aload_n S.1 S.2.1 dX3_isVersion_10 rfl (lv_at hl 0 rfl) ?_
      refine o_get S hG i_X3 (by decide) hM.1 rfl 4 (by decide) kf_19 rfl dX3_isVersion_11 ?_
      refine lv_iload_n S.1 S.2.1 dX3_isVersion_14 rfl (lv_at hl 1 rfl) ?_
      refine o_zald S hG (j := j) (by decide) hM.2.2.2.2.1 (by omega) dX3_isVersion_15 (kk := ?_)
      refine b_if_eq S (b := th j) (tgt := 23) dX3_isVersion_16 (by decide) (fun c_16 => ?_) (fun c_16 => ?_)
      · skip
        refine lv_iconst (v := (nI 0)) S.1 S.2.1 dX3_isVersion_23 (by decide) ?_
        exact ret _ _ _ _ _ _ _ _ hG ⟨rfl, bI_f (by rw [isv_nI hj]; exact c_16)⟩ rfl (Nat.le_of_ble_eq_true rfl) (Nat.le_of_ble_eq_true rfl) dX3_isVersion_24
      · skip
        refine lv_iconst (v := (nI 1)) S.1 S.2.1 dX3_isVersion_19 (by decide) ?_
        refine lv_goto (tgt := 24) S.1 S.2.1 dX3_isVersion_20 (by decide) ?_
        exact ret _ _ _ _ _ _ _ _ hG ⟨rfl, bI_t (by rw [isv_nI hj]; exact c_16)⟩ rfl (Nat.le_of_ble_eq_true rfl) (Nat.le_of_ble_eq_true rfl) dX3_isVersion_24

set_option maxHeartbeats 4000000 in
set_option maxRecDepth 100000 in
theorem c_X3_isSnapshot (l : Launch) (G : Gx) (ad : Nat → Nat) (s0 : Nat) (f : Nat → va_E) (cd : Nat) (K V : Nat → Int32) (sz : Nat → Nat) (th : Nat → Bool) (pl : Nat → Int) (dn : Nat → Bool) (v : Int32) (hM : MB G ad f cd K V sz th pl dn)  : mI l yX3_isSnapshot wsX3_isSnapshot 1 21 0 0 [.ref (ad 76), .int v] G 84 ad s0 f (fun r f' => f = f' ∧ r = bI (iss th v)) := by
  refine ov_mI (cc := cX3_isSnapshot) (maxL := 2) (ty := .boolean) (by decide) rfl (Nat.le_of_ble_eq_true rfl) ?_
  intro p e s m below meth c av Q S ret hG ls hl
  have S : CallFix p m c cX3_isSnapshot 2 s av wsX3_isSnapshot RX3 := S
  have hl : lv_has ls 2 [(0, .ref (ad 76)), (1, .int v)] := hl
  refine lv_iload_n S.1 S.2.1 dX3_isSnapshot_0 rfl (lv_at hl 1 rfl) ?_
  refine lv_if_le (tgt := 16) S.1 S.2.1 dX3_isSnapshot_1 (by decide) (fun c_1 => ?_) (fun c_1 => ?_)
  · skip
    refine lv_iconst (v := (nI 0)) S.1 S.2.1 dX3_isSnapshot_16 (by decide) ?_
    exact ret _ _ _ _ _ _ _ _ hG ⟨rfl, bI_f (iss_f1 c_1)⟩ rfl (Nat.le_of_ble_eq_true rfl) (Nat.le_of_ble_eq_true rfl) dX3_isSnapshot_17
  · skip
    refine lv_aload_n S.1 S.2.1 dX3_isSnapshot_4 rfl (lv_at hl 0 rfl) ?_
    refine lv_iload_n S.1 S.2.1 dX3_isSnapshot_5 rfl (lv_at hl 1 rfl) ?_
    refine o_cVi S (rest := []) (c_X3_isVersion l G ad s0 f cd K V sz th pl dn v hM ) (cwV 1 S.2.2.2.2 gX3_isSnapshot_X3_isVersion rfl rfl rfl (by decide +kernel) ⟨(Nat.le_of_ble_eq_true rfl), (Nat.le_of_ble_eq_true rfl)⟩) hG (by decide) hM.1 rfl rfl hl.1 rfl (Nat.le_of_ble_eq_true rfl) dX3_isSnapshot_6 ⟨(Nat.le_of_ble_eq_true rfl), (Nat.le_of_ble_eq_true rfl)⟩ (fun r9 f9 H locs hp hG => ?_)
    obtain ⟨rfl, rfl⟩ := hp
    refine b_if_eq S (b := (isv th v)) (tgt := 16) dX3_isSnapshot_9 (by decide) (fun c_9 => ?_) (fun c_9 => ?_)
    · skip
      refine lv_iconst (v := (nI 0)) S.1 S.2.1 dX3_isSnapshot_16 (by decide) ?_
      exact ret _ _ _ _ _ _ _ _ hG ⟨rfl, bI_f (by rw [iss_isv c_1]; exact c_9)⟩ rfl (Nat.le_of_ble_eq_true rfl) (Nat.le_of_ble_eq_true rfl) dX3_isSnapshot_17
    · skip
      refine lv_iconst (v := (nI 1)) S.1 S.2.1 dX3_isSnapshot_12 (by decide) ?_
      refine lv_goto (tgt := 17) S.1 S.2.1 dX3_isSnapshot_13 (by decide) ?_
      exact ret _ _ _ _ _ _ _ _ hG ⟨rfl, bI_t (by rw [iss_isv c_1]; exact c_9)⟩ rfl (Nat.le_of_ble_eq_true rfl) (Nat.le_of_ble_eq_true rfl) dX3_isSnapshot_17

set_option maxHeartbeats 4000000 in
set_option maxRecDepth 100000 in
theorem c_X3_isCursor (l : Launch) (G : Gx) (ad : Nat → Nat) (s0 : Nat) (f : Nat → va_E) (cd : Nat) (K V : Nat → Int32) (sz : Nat → Nat) (th : Nat → Bool) (pl : Nat → Int) (dn : Nat → Bool) (v : Int32) (hM : MB G ad f cd K V sz th pl dn)  : mI l yX3_isCursor wsX3_isCursor 0 0 0 0 [.ref (ad 76), .int v] G 84 ad s0 f (fun r f' => f = f' ∧ r = bI (isc th v)) := by
  refine ov_mI (cc := cX3_isCursor) (maxL := 2) (ty := .boolean) (by decide) rfl (Nat.le_of_ble_eq_true rfl) ?_
  intro p e s m below meth c av Q S ret hG ls hl
  have S : CallFix p m c cX3_isCursor 2 s av wsX3_isCursor RX3 := S
  have hl : lv_has ls 2 [(0, .ref (ad 76)), (1, .int v)] := hl
  have i_X3 : ∀ w ∈ u_ws RX3 TX3 7, w ∈ wsX3_isCursor := by decide +kernel
  have kf_19 := S.2.2.2.2 (.fieldLink RX3 19 "OrderedVersionsModel" "there" "[Z") (by decide +kernel)
  refine lv_iload_n S.1 S.2.1 dX3_isCursor_0 rfl (lv_at hl 1 rfl) ?_
  refine lv_if_lt (tgt := 26) S.1 S.2.1 dX3_isCursor_1 (by decide) (fun c_1 => ?_) (fun c_1 => ?_)
  · skip
    refine lv_iconst (v := (nI 0)) S.1 S.2.1 dX3_isCursor_26 (by decide) ?_
    exact ret _ _ _ _ _ _ _ _ hG ⟨rfl, bI_f (isc_f1 c_1)⟩ rfl (Nat.le_of_ble_eq_true rfl) (Nat.le_of_ble_eq_true rfl) dX3_isCursor_27
  · skip
    refine lv_iload_n S.1 S.2.1 dX3_isCursor_4 rfl (lv_at hl 1 rfl) ?_
    refine lv_bipush (v := (nI 8)) S.1 S.2.1 dX3_isCursor_5 (by decide) ?_
    refine lv_icmp_ge (tgt := 26) S.1 S.2.1 dX3_isCursor_7 (by decide) (fun c_7 => ?_) (fun c_7 => ?_)
    · skip
      refine lv_iconst (v := (nI 0)) S.1 S.2.1 dX3_isCursor_26 (by decide) ?_
      exact ret _ _ _ _ _ _ _ _ hG ⟨rfl, bI_f (isc_f2 c_7)⟩ rfl (Nat.le_of_ble_eq_true rfl) (Nat.le_of_ble_eq_true rfl) dX3_isCursor_27
    · skip
      obtain ⟨j, hj, rfl⟩ := v_ex2 (by decide) c_1 c_7
      refine lv_aload_n S.1 S.2.1 dX3_isCursor_10 rfl (lv_at hl 0 rfl) ?_
      refine o_get S hG i_X3 (by decide) hM.1 rfl 4 (by decide) kf_19 rfl dX3_isCursor_11 ?_
      refine lv_bipush (v := (nI 13)) S.1 S.2.1 dX3_isCursor_14 (by decide) ?_
      refine lv_iload_n S.1 S.2.1 dX3_isCursor_16 rfl (lv_at hl 1 rfl) ?_
      refine o_add S (a := 13) (b := j) dX3_isCursor_17 ?_
      refine o_zald S hG (j := 13 + j) (by decide) hM.2.2.2.2.1 (by omega) dX3_isCursor_18 (kk := ?_)
      refine b_if_eq S (b := th (13 + j)) (tgt := 26) dX3_isCursor_19 (by decide) (fun c_19 => ?_) (fun c_19 => ?_)
      · skip
        refine lv_iconst (v := (nI 0)) S.1 S.2.1 dX3_isCursor_26 (by decide) ?_
        exact ret _ _ _ _ _ _ _ _ hG ⟨rfl, bI_f (by rw [isc_nI hj]; exact c_19)⟩ rfl (Nat.le_of_ble_eq_true rfl) (Nat.le_of_ble_eq_true rfl) dX3_isCursor_27
      · skip
        refine lv_iconst (v := (nI 1)) S.1 S.2.1 dX3_isCursor_22 (by decide) ?_
        refine lv_goto (tgt := 27) S.1 S.2.1 dX3_isCursor_23 (by decide) ?_
        exact ret _ _ _ _ _ _ _ _ hG ⟨rfl, bI_t (by rw [isc_nI hj]; exact c_19)⟩ rfl (Nat.le_of_ble_eq_true rfl) (Nat.le_of_ble_eq_true rfl) dX3_isCursor_27

set_option maxHeartbeats 4000000 in
set_option maxRecDepth 100000 in
theorem c_X3_thrown (l : Launch) (G : Gx) (ad : Nat → Nat) (s0 : Nat) (f : Nat → va_E) (cd : Nat) (K V : Nat → Int32) (sz : Nat → Nat) (th : Nat → Bool) (pl : Nat → Int) (dn : Nat → Bool)  (hM : MB G ad f cd K V sz th pl dn)  : mI l yX3_thrown wsX3_thrown 0 0 0 0 [.ref (ad 76)] G 84 ad s0 f (fun r f' => f = f' ∧ r = nI cd) := by
  refine ov_mI (cc := cX3_thrown) (maxL := 1) (ty := .int) (by decide) rfl (Nat.le_of_ble_eq_true rfl) ?_
  intro p e s m below meth c av Q S ret hG ls hl
  have S : CallFix p m c cX3_thrown 1 s av wsX3_thrown RX3 := S
  have hl : lv_has ls 1 [(0, .ref (ad 76))] := hl
  have i_X3 : ∀ w ∈ u_ws RX3 TX3 7, w ∈ wsX3_thrown := by decide +kernel
  have kf_29 := S.2.2.2.2 (.fieldLink RX3 29 "OrderedVersionsModel" "code" "I") (by decide +kernel)
  refine lv_aload_n S.1 S.2.1 dX3_thrown_0 rfl (lv_at hl 0 rfl) ?_
  refine o_get S hG i_X3 (by decide) hM.1 rfl 0 (by decide) kf_29 rfl dX3_thrown_1 ?_
  exact ret _ _ _ _ _ _ _ _ hG ⟨rfl, rfl⟩ rfl (Nat.le_of_ble_eq_true rfl) (Nat.le_of_ble_eq_true rfl) dX3_thrown_4

/-- how many keys a range has -/
def man (n : Nat) (k : Nat → Int32) (lo hi : Int32) : Nat := if hi < lo then 0 else upt n k hi - bel n k lo
theorem bel_mono {n : Nat} {k : Nat → Int32} {a b : Int32} (h : a ≤ b) : bel n k a ≤ bel n k b := by
  obtain ⟨a1, a2, a3⟩ := bel_ok n k a
  obtain ⟨b1, b2, b3⟩ := bel_ok n k b
  refine Nat.le_of_not_lt fun g => ?_
  exact b3 (by omega) (i32_lt_le (a2 _ g) h)
theorem upt_ge {n : Nat} {k : Nat → Int32} {a : Int32} : bel n k a ≤ upt n k a := by
  unfold upt; split <;> omega
theorem man_le {n : Nat} {k : Nat → Int32} {lo hi : Int32} (hn : n ≤ 600) (h : lo ≤ hi) : bel n k lo ≤ upt n k hi := Nat.le_trans (bel_mono h) upt_ge

set_option maxHeartbeats 4000000 in
set_option maxRecDepth 100000 in
theorem c_X3_many (l : Launch) (G : Gx) (ad : Nat → Nat) (s0 : Nat) (f : Nat → va_E) (cd : Nat) (K V : Nat → Int32) (sz : Nat → Nat) (th : Nat → Bool) (pl : Nat → Int) (dn : Nat → Bool) (j : Nat) (lo hi : Int32) (hM : MB G ad f cd K V sz th pl dn) (hj : j < 21) (hn : sz j ≤ 600) : mI l yX3_many wsX3_many 3 68 0 0 [.ref (ad 76), .int (nI j), .int lo, .int hi] G 84 ad s0 f (fun r f' => f = f' ∧ r = nI (man (sz j) (of K j) lo hi)) := by
  refine ov_mI (cc := cX3_many) (maxL := 4) (ty := .int) (by decide) rfl (Nat.le_of_ble_eq_true rfl) ?_
  intro p e s m below meth c av Q S ret hG ls hl
  have S : CallFix p m c cX3_many 4 s av wsX3_many RX3 := S
  have hl : lv_has ls 4 [(0, .ref (ad 76)), (1, .int (nI j)), (2, .int lo), (3, .int hi)] := hl
  refine lv_iload_n S.1 S.2.1 dX3_many_0 rfl (lv_at hl 2 rfl) ?_
  refine lv_iload_n S.1 S.2.1 dX3_many_1 rfl (lv_at hl 3 rfl) ?_
  refine lv_icmp_le (tgt := 9) S.1 S.2.1 dX3_many_2 (by decide) (fun c_2 => ?_) (fun c_2 => ?_)
  · skip
    refine lv_aload_n S.1 S.2.1 dX3_many_9 rfl (lv_at hl 0 rfl) ?_
    refine lv_iload_n S.1 S.2.1 dX3_many_10 rfl (lv_at hl 1 rfl) ?_
    refine lv_iload_n S.1 S.2.1 dX3_many_11 rfl (lv_at hl 3 rfl) ?_
    refine o_cVi S (rest := []) (c_X3_upTo l G ad s0 f cd K V sz th pl dn j hi hM (by omega) (by omega)) (cwV 2 S.2.2.2.2 gX3_many_X3_upTo rfl rfl rfl (by decide +kernel) ⟨(Nat.le_of_ble_eq_true rfl), (Nat.le_of_ble_eq_true rfl)⟩) hG (by decide) hM.1 rfl rfl hl.1 rfl (Nat.le_of_ble_eq_true rfl) dX3_many_12 ⟨(Nat.le_of_ble_eq_true rfl), (Nat.le_of_ble_eq_true rfl)⟩ (fun r9 f9 H locs hp hG => ?_)
    obtain ⟨rfl, rfl⟩ := hp
    have lb_1 := upt_le (sz j) (of K j) hi (by omega)
    refine lv_aload_n S.1 S.2.1 dX3_many_15 rfl (lv_at hl 0 rfl) ?_
    refine lv_iload_n S.1 S.2.1 dX3_many_16 rfl (lv_at hl 1 rfl) ?_
    refine lv_iload_n S.1 S.2.1 dX3_many_17 rfl (lv_at hl 2 rfl) ?_
    refine o_cVi S (rest := [.int (nI (upt (sz j) (of K j) hi))]) (c_X3_below l G ad s0 f cd K V sz th pl dn j lo hM (by omega) (by omega)) (cwV 2 S.2.2.2.2 gX3_many_X3_below rfl rfl rfl (by decide +kernel) ⟨(Nat.le_of_ble_eq_true rfl), (Nat.le_of_ble_eq_true rfl)⟩) hG (by decide) hM.1 rfl rfl hl.1 rfl (Nat.le_of_ble_eq_true rfl) dX3_many_18 ⟨(Nat.le_of_ble_eq_true rfl), (Nat.le_of_ble_eq_true rfl)⟩ (fun r9 f9 H locs hp hG => ?_)
    obtain ⟨rfl, rfl⟩ := hp
    have lb_2 := bel_le (sz j) (of K j) lo
    refine o_sub S (a := upt (sz j) (of K j) hi) (b := bel (sz j) (of K j) lo) dX3_many_21 (man_le (by omega) c_2) ?_
    exact ret _ _ _ _ _ _ _ _ hG ⟨rfl, by rw [man, if_neg (i32_nlt c_2)]⟩ rfl (Nat.le_of_ble_eq_true rfl) (Nat.le_of_ble_eq_true rfl) dX3_many_22
  · skip
    refine lv_iconst (v := (nI 0)) S.1 S.2.1 dX3_many_5 (by decide) ?_
    refine lv_goto (tgt := 22) S.1 S.2.1 dX3_many_6 (by decide) ?_
    exact ret _ _ _ _ _ _ _ _ hG ⟨rfl, by rw [man, if_pos (i32_of_nle c_2)]⟩ rfl (Nat.le_of_ble_eq_true rfl) (Nat.le_of_ble_eq_true rfl) dX3_many_22

theorem spr_t {th : Nat → Bool} {b z : Nat} {r : Int32} (h : (∃ j, z < j ∧ j ≤ b ∧ th j = false ∧ (∀ i, z < i → i < j → th i = true) ∧ r = nI j) ∨ (r = (-1) ∧ ∀ i, z < i → i ≤ b → th i = true)) (ht : th z = true) (hz : 1 ≤ z) :
    (∃ j, z - 1 < j ∧ j ≤ b ∧ th j = false ∧ (∀ i, z - 1 < i → i < j → th i = true) ∧ r = nI j) ∨ (r = (-1) ∧ ∀ i, z - 1 < i → i ≤ b → th i = true) := by
  rcases h with ⟨j, h1, h2, h3, h4, h5⟩ | ⟨h1, h2⟩
  · refine Or.inl ⟨j, by omega, h2, h3, fun i g1 g2 => ?_, h5⟩
    by_cases e : i = z
    · rw [e]; exact ht
    · exact h4 i (by omega) g2
  · refine Or.inr ⟨h1, fun i g1 g2 => ?_⟩
    by_cases e : i = z
    · rw [e]; exact ht
    · exact h2 i (by omega) g2
theorem spr_e {th : Nat → Bool} {a b z : Nat} {r : Int32} (h : (∃ j, z < j ∧ j ≤ b ∧ th j = false ∧ (∀ i, z < i → i < j → th i = true) ∧ r = nI j) ∨ (r = (-1) ∧ ∀ i, z < i → i ≤ b → th i = true)) (hz : a = z + 1) :
    (∃ j, a ≤ j ∧ j ≤ b ∧ th j = false ∧ (∀ i, a ≤ i → i < j → th i = true) ∧ r = nI j) ∨ (r = (-1) ∧ ∀ i, a ≤ i → i ≤ b → th i = true) := by
  subst hz; exact h

set_option maxHeartbeats 4000000 in
set_option maxRecDepth 100000 in
theorem c_X3_spare (l : Launch) (G : Gx) (ad : Nat → Nat) (s0 : Nat) (f : Nat → va_E) (cd : Nat) (K V : Nat → Int32) (sz : Nat → Nat) (th : Nat → Bool) (pl : Nat → Int) (dn : Nat → Bool) (a b : Nat) (hM : MB G ad f cd K V sz th pl dn) (ha9 : 1 ≤ a) (hab : a ≤ b) (hb : b < 21) : mI l yX3_spare wsX3_spare 0 0 0 0 [.ref (ad 76), .int (nI a), .int (nI b)] G 84 ad s0 f (fun r f' => f = f' ∧ ((∃ j, a ≤ j ∧ j ≤ b ∧ th j = false ∧ (∀ i, a ≤ i → i < j → th i = true) ∧ r = nI j) ∨ (r = (-1) ∧ ∀ i, a ≤ i → i ≤ b → th i = true))) := by
  refine ov_mI (cc := cX3_spare) (maxL := 5) (ty := .int) (by decide) rfl (Nat.le_of_ble_eq_true rfl) ?_
  intro p e s m below meth c av Q S ret hG ls hl
  have S : CallFix p m c cX3_spare 5 s av wsX3_spare RX3 := S
  have hl : lv_has ls 5 [(0, .ref (ad 76)), (1, .int (nI a)), (2, .int (nI b))] := hl
  have i_X3 : ∀ w ∈ u_ws RX3 TX3 7, w ∈ wsX3_spare := by decide +kernel
  have kf_19 := S.2.2.2.2 (.fieldLink RX3 19 "OrderedVersionsModel" "there" "[Z") (by decide +kernel)
  refine lv_iconst (v := (-1)) S.1 S.2.1 dX3_spare_0 (by decide) ?_
  refine lv_istore_n (lv' := [(3, .int (-1)), (0, .ref (ad 76)), (1, .int (nI a)), (2, .int (nI b))]) S.1 S.2.1 dX3_spare_1 rfl hl (by decide) rfl (fun ls hl => ?_)
  refine lv_iload_n S.1 S.2.1 dX3_spare_2 rfl (lv_at hl 3 rfl) ?_
  refine lv_istore (lv' := [(4, .int (nI b)), (3, .int (-1)), (0, .ref (ad 76)), (1, .int (nI a)), (2, .int (nI b))]) S.1 S.2.1 dX3_spare_3 hl (by decide) rfl (fun ls hl => ?_)
  have L_5 : ∀ (d9 : Nat) (r0 : Int32) (z : Nat) (H : Heap) (locs : List Loc), (a ≤ z + 1 ∧ z ≤ b) → ((∃ j, z < j ∧ j ≤ b ∧ th j = false ∧ (∀ i, z < i → i < j → th i = true) ∧ r0 = nI j) ∨ (r0 = (-1) ∧ ∀ i, z < i → i ≤ b → th i = true)) → z < d9 → ov_dy G 84 ad s0 s f H locs → ∀ ls : Array Slot, lv_has ls 5 [(0, .ref (ad 76)), (1, .int (nI a)), (2, .int (nI b)), (3, .int r0), (4, .int (nI z))] → W p l e (ov_rm 0 0 0 0) s m av below meth c H locs 0 0 Q (F0 m 5 ls []) := by
    intro d9
    induction d9 with
    | zero => intro r0 z H locs hz hr h9; exact absurd h9 (Nat.not_lt_zero _)
    | succ d9 ih_5 =>
      intro r0 z H locs hz hr h9 hG ls hl
      refine lv_iload S.1 S.2.1 dX3_spare_5 (lv_at hl 4 rfl) ?_
      refine lv_iload_n S.1 S.2.1 dX3_spare_7 rfl (lv_at hl 1 rfl) ?_
      refine n_lt S (a := z) (b := a) (tgt := 34) dX3_spare_8 (by decide) (by omega) (by omega) (fun c_8 => ?_) (fun c_8 => ?_)
      · skip
        refine lv_iload_n S.1 S.2.1 dX3_spare_34 rfl (lv_at hl 3 rfl) ?_
        exact ret _ _ _ _ _ _ _ _ hG ⟨rfl, spr_e hr (by omega)⟩ rfl (Nat.le_of_ble_eq_true rfl) (Nat.le_of_ble_eq_true rfl) dX3_spare_35
      · skip
        refine lv_aload_n S.1 S.2.1 dX3_spare_11 rfl (lv_at hl 0 rfl) ?_
        refine o_get S hG i_X3 (by decide) hM.1 rfl 4 (by decide) kf_19 rfl dX3_spare_12 ?_
        refine lv_iload S.1 S.2.1 dX3_spare_15 (lv_at hl 4 rfl) ?_
        refine o_zald S hG (j := z) (by decide) hM.2.2.2.2.1 (by omega) dX3_spare_17 (kk := ?_)
        refine b_if_eq S (b := th z) (tgt := 25) dX3_spare_18 (by decide) (fun c_18 => ?_) (fun c_18 => ?_)
        · skip
          refine lv_iload S.1 S.2.1 dX3_spare_25 (lv_at hl 4 rfl) ?_
          refine lv_istore_n (lv' := [(3, .int (nI z)), (0, .ref (ad 76)), (1, .int (nI a)), (2, .int (nI b)), (4, .int (nI z))]) S.1 S.2.1 dX3_spare_27 rfl hl (by decide) rfl (fun ls hl => ?_)
          refine lv_iinc (v := (nI (z - 1))) (lv' := [(4, .int (nI (z - 1))), (3, .int (nI z)), (0, .ref (ad 76)), (1, .int (nI a)), (2, .int (nI b))]) S.1 S.2.1 dX3_spare_28 hl (k := 4) rfl (nI_dec (by omega)) (by decide) rfl (fun ls hl => ?_)
          refine lv_goto (tgt := 5) S.1 S.2.1 dX3_spare_31 (by decide) ?_
          exact ih_5 (nI z) (z - 1) _ _ (by omega) (Or.inl ⟨z, by omega, by omega, c_18, fun i h1 h2 => absurd h1 (by omega), rfl⟩) (by omega) hG ls (lv_sub hl [2, 3, 4, 1, 0] rfl)
        · skip
          refine lv_iload_n S.1 S.2.1 dX3_spare_21 rfl (lv_at hl 3 rfl) ?_
          refine lv_goto (tgt := 27) S.1 S.2.1 dX3_spare_22 (by decide) ?_
          refine lv_istore_n (lv' := [(3, .int r0), (0, .ref (ad 76)), (1, .int (nI a)), (2, .int (nI b)), (4, .int (nI z))]) S.1 S.2.1 dX3_spare_27 rfl hl (by decide) rfl (fun ls hl => ?_)
          refine lv_iinc (v := (nI (z - 1))) (lv' := [(4, .int (nI (z - 1))), (3, .int r0), (0, .ref (ad 76)), (1, .int (nI a)), (2, .int (nI b))]) S.1 S.2.1 dX3_spare_28 hl (k := 4) rfl (nI_dec (by omega)) (by decide) rfl (fun ls hl => ?_)
          refine lv_goto (tgt := 5) S.1 S.2.1 dX3_spare_31 (by decide) ?_
          exact ih_5 r0 (z - 1) _ _ (by omega) (spr_t hr c_18 (by omega)) (by omega) hG ls (lv_sub hl [2, 3, 4, 1, 0] rfl)
  exact L_5 _ (-1) b _ _ (by omega) (Or.inr ⟨rfl, fun i h1 h2 => absurd h1 (by omega)⟩) (Nat.lt_succ_self _) hG ls (lv_sub hl [2, 3, 4, 1, 0] rfl)

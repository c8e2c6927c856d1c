set_option maxHeartbeats 4000000 in
set_option maxRecDepth 100000 in
theorem c_X3_put (l : Launch) (G : Gx) (ad : Nat → Nat) (s0 : Nat) (f : Nat → va_E) (cd : Nat) (K V : Nat → Int32) (sz : Nat → Nat) (th : Nat → Bool) (pl : Nat → Int) (dn : Nat → Bool) (key w : Int32) (hM : MB G ad f cd K V sz th pl dn) (hW : ∀ j, j < 21 → th j = true → sz j ≤ 600) (h00 : th 0 = true) : mI l yX3_put wsX3_put 2 47 0 0 [.ref (ad 76), .int key, .int w] G 84 ad s0 f (fun r f' => OnM f f' ∧ ((hs (sz 0) (of K 0) key = true ∧ r = nI 0 ∧ MB G ad f' 0 K (upd V (bel (sz 0) (of K 0) key) w) sz th pl dn) ∨ (hs (sz 0) (of K 0) key = false ∧ sz 0 = 600 ∧ MB G ad f' 1 K V sz th pl dn) ∨ (hs (sz 0) (of K 0) key = false ∧ sz 0 < 600 ∧ r = nI 1 ∧ ∃ K2 V2, MB G ad f' 0 K2 V2 (va_up sz 0 (sz 0 + 1)) th pl dn ∧ (∀ i, i < sz 0 + 1 → K2 i = insF K (bel (sz 0) (of K 0) key) key i ∧ V2 i = insF V (bel (sz 0) (of K 0) key) w i) ∧ ∀ i, 600 ≤ i → K2 i = K i ∧ V2 i = V i))) := by
  refine ov_mI (cc := cX3_put) (maxL := 4) (ty := .boolean) (by decide) rfl (Nat.le_of_ble_eq_true rfl) ?_
  intro p e s m below meth c av Q S ret hG ls hl
  have S : CallFix p m c cX3_put 4 s av wsX3_put RX3 := S
  have hl : lv_has ls 4 [(0, .ref (ad 76)), (1, .int key), (2, .int w)] := hl
  have i_X3 : ∀ w ∈ u_ws RX3 TX3 7, w ∈ wsX3_put := by decide +kernel
  have kf_13 := S.2.2.2.2 (.fieldLink RX3 13 "OrderedVersionsModel" "values" "[I") (by decide +kernel)
  have kf_16 := S.2.2.2.2 (.fieldLink RX3 16 "OrderedVersionsModel" "sizes" "[I") (by decide +kernel)
  have kf_29 := S.2.2.2.2 (.fieldLink RX3 29 "OrderedVersionsModel" "code" "I") (by decide +kernel)
  have hO : OnM f f := OnM.rf
  have hn0 := hW 0 (by decide) h00
  refine lv_aload_n S.1 S.2.1 dX3_put_0 rfl (lv_at hl 0 rfl) ?_
  refine lv_iconst (v := (nI 0)) S.1 S.2.1 dX3_put_1 (by decide) ?_
  refine lv_iload_n S.1 S.2.1 dX3_put_2 rfl (lv_at hl 1 rfl) ?_
  refine o_cVi S (rest := []) (c_X3_has l G ad s0 f cd K V sz th pl dn 0 key hM (by omega) (by omega)) (cwV 2 S.2.2.2.2 gX3_put_X3_has rfl rfl rfl (by decide +kernel) ⟨(Nat.le_of_ble_eq_true rfl), (Nat.le_of_ble_eq_true rfl)⟩) hG (by decide) hM.1 rfl rfl hl.1 rfl (Nat.le_of_ble_eq_true rfl) dX3_put_3 ⟨(Nat.le_of_ble_eq_true rfl), (Nat.le_of_ble_eq_true rfl)⟩ (fun r9 f9 H locs hp hG => ?_)
  obtain ⟨rfl, rfl⟩ := hp
  refine b_if_ne S (b := (hs (sz 0) (of K 0) key)) (tgt := 13) dX3_put_6 (by decide) (fun c_6 => ?_) (fun c_6 => ?_)
  · skip
    refine lv_iconst (v := (nI 0)) S.1 S.2.1 dX3_put_13 (by decide) ?_
    refine lv_istore_n (lv' := [(3, .int (nI 0)), (0, .ref (ad 76)), (1, .int key), (2, .int w)]) S.1 S.2.1 dX3_put_14 rfl hl (by decide) rfl (fun ls hl => ?_)
    refine lv_aload_n S.1 S.2.1 dX3_put_15 rfl (lv_at hl 1 rfl) ?_
    refine lv_iload_n S.1 S.2.1 dX3_put_16 rfl (lv_at hl 0 rfl) ?_
    refine n_if_eq S (a := 0) (tgt := 36) dX3_put_17 (by decide) (by omega) (fun c_17 => ?_) (fun c_17 => ?_)
    · skip
      refine lv_iconst (v := (nI 0)) S.1 S.2.1 dX3_put_36 (by decide) ?_
      refine o_put S hG i_X3 tyX3_ok nmX3 (by decide) hM.1 rfl 0 (by decide) kf_29 rfl rfl rfl (Nat.le_of_ble_eq_true rfl) dX3_put_37 (fun H locs hG => ?_)
      obtain ⟨f_1, ef_1, hG⟩ := ov_name hG
      have hM := hM.u0 (cd2 := 0) ef_1
      have hO := hO.up ef_1 (by decide)
      refine lv_aload_n S.1 S.2.1 dX3_put_40 rfl (lv_at hl 1 rfl) ?_
      refine o_get S hG i_X3 (by decide) hM.1 rfl 0 (by decide) kf_29 rfl dX3_put_41 ?_
      refine lv_if_le (tgt := 49) S.1 S.2.1 dX3_put_44 (by decide) (fun c_44 => ?_) (fun c_44 => ?_)
      · skip
        refine lv_iload_n S.1 S.2.1 dX3_put_49 rfl (lv_at hl 0 rfl) ?_
        refine n_if_eq S (a := 0) (tgt := 62) dX3_put_50 (by decide) (by omega) (fun c_50 => ?_) (fun c_50 => ?_)
        · skip
          refine lv_aload_n S.1 S.2.1 dX3_put_62 rfl (lv_at hl 1 rfl) ?_
          refine o_get S hG i_X3 (by decide) hM.1 rfl 2 (by decide) kf_13 rfl dX3_put_63 ?_
          refine lv_aload_n S.1 S.2.1 dX3_put_66 rfl (lv_at hl 1 rfl) ?_
          refine lv_iconst (v := (nI 0)) S.1 S.2.1 dX3_put_67 (by decide) ?_
          refine lv_iload_n S.1 S.2.1 dX3_put_68 rfl (lv_at hl 2 rfl) ?_
          refine o_cVi S (rest := [.ref (ad 78)]) (c_X3_below l G ad s0 f_1 0 K V sz th pl dn 0 key hM (by omega) (by omega)) (cwV 2 S.2.2.2.2 gX3_put_X3_below rfl rfl rfl (by decide +kernel) ⟨(Nat.le_of_ble_eq_true rfl), (Nat.le_of_ble_eq_true rfl)⟩) hG (by decide) hM.1 rfl rfl hl.1 rfl (Nat.le_of_ble_eq_true rfl) dX3_put_69 ⟨(Nat.le_of_ble_eq_true rfl), (Nat.le_of_ble_eq_true rfl)⟩ (fun r9 f9 H locs hp hG => ?_)
          obtain ⟨rfl, rfl⟩ := hp
          have lb_2 := bel_le (sz 0) (of K 0) key
          refine lv_iload_n S.1 S.2.1 dX3_put_72 rfl (lv_at hl 3 rfl) ?_
          refine o_iast S hG (j := bel (sz 0) (of K 0) key) (by decide) hM.2.2.1 (by omega) dX3_put_73 (kk := fun H locs hG => ?_)
          obtain ⟨f_3, ef_3, hG⟩ := ov_name hG
          have hM := hM.uV ef_3
          have hO := hO.up ef_3 (by decide)
          refine lv_iload_n S.1 S.2.1 dX3_put_74 rfl (lv_at hl 0 rfl) ?_
          exact ret _ _ _ _ _ _ _ _ hG ⟨hO, Or.inl ⟨c_6, rfl, hM⟩⟩ rfl (Nat.le_of_ble_eq_true rfl) (Nat.le_of_ble_eq_true rfl) dX3_put_75
        · skip
          exact absurd c_50 (by decide)
      · skip
        exact absurd c_44 (by decide)
    · skip
      exact absurd c_17 (by decide)
  · skip
    refine lv_iconst (v := (nI 1)) S.1 S.2.1 dX3_put_9 (by decide) ?_
    refine lv_goto (tgt := 14) S.1 S.2.1 dX3_put_10 (by decide) ?_
    refine lv_istore_n (lv' := [(3, .int (nI 1)), (0, .ref (ad 76)), (1, .int key), (2, .int w)]) S.1 S.2.1 dX3_put_14 rfl hl (by decide) rfl (fun ls hl => ?_)
    refine lv_aload_n S.1 S.2.1 dX3_put_15 rfl (lv_at hl 1 rfl) ?_
    refine lv_iload_n S.1 S.2.1 dX3_put_16 rfl (lv_at hl 0 rfl) ?_
    refine n_if_eq S (a := 1) (tgt := 36) dX3_put_17 (by decide) (by omega) (fun c_17 => ?_) (fun c_17 => ?_)
    · skip
      exact absurd c_17 (by decide)
    · skip
      refine lv_aload_n S.1 S.2.1 dX3_put_20 rfl (lv_at hl 1 rfl) ?_
      refine o_get S hG i_X3 (by decide) hM.1 rfl 3 (by decide) kf_16 rfl dX3_put_21 ?_
      refine lv_iconst (v := (nI 0)) S.1 S.2.1 dX3_put_24 (by decide) ?_
      refine o_iald S hG (j := 0) (by decide) hM.2.2.2.1 (by omega) dX3_put_25 (kk := ?_)
      refine lv_sipush (v := (nI 600)) S.1 S.2.1 dX3_put_26 (by decide) ?_
      refine n_ne S (a := sz 0) (b := 600) (tgt := 36) dX3_put_29 (by decide) (by omega) (by omega) (fun c_29 => ?_) (fun c_29 => ?_)
      · skip
        refine lv_iconst (v := (nI 0)) S.1 S.2.1 dX3_put_36 (by decide) ?_
        refine o_put S hG i_X3 tyX3_ok nmX3 (by decide) hM.1 rfl 0 (by decide) kf_29 rfl rfl rfl (Nat.le_of_ble_eq_true rfl) dX3_put_37 (fun H locs hG => ?_)
        obtain ⟨f_4, ef_4, hG⟩ := ov_name hG
        have hM := hM.u0 (cd2 := 0) ef_4
        have hO := hO.up ef_4 (by decide)
        refine lv_aload_n S.1 S.2.1 dX3_put_40 rfl (lv_at hl 1 rfl) ?_
        refine o_get S hG i_X3 (by decide) hM.1 rfl 0 (by decide) kf_29 rfl dX3_put_41 ?_
        refine lv_if_le (tgt := 49) S.1 S.2.1 dX3_put_44 (by decide) (fun c_44 => ?_) (fun c_44 => ?_)
        · skip
          refine lv_iload_n S.1 S.2.1 dX3_put_49 rfl (lv_at hl 0 rfl) ?_
          refine n_if_eq S (a := 1) (tgt := 62) dX3_put_50 (by decide) (by omega) (fun c_50 => ?_) (fun c_50 => ?_)
          · skip
            exact absurd c_50 (by decide)
          · skip
            refine lv_aload_n S.1 S.2.1 dX3_put_53 rfl (lv_at hl 1 rfl) ?_
            refine lv_iload_n S.1 S.2.1 dX3_put_54 rfl (lv_at hl 2 rfl) ?_
            refine lv_iload_n S.1 S.2.1 dX3_put_55 rfl (lv_at hl 3 rfl) ?_
            refine o_cVv S (rest := []) (c_X3_insert l G ad s0 f_4 0 K V sz th pl dn key w hM (by omega)) (cwV 2 S.2.2.2.2 gX3_put_X3_insert rfl rfl rfl (by decide +kernel) ⟨(Nat.le_of_ble_eq_true rfl), (Nat.le_of_ble_eq_true rfl)⟩) hG (by decide) hM.1 rfl rfl hl.1 rfl (Nat.le_of_ble_eq_true rfl) dX3_put_56 ⟨(Nat.le_of_ble_eq_true rfl), (Nat.le_of_ble_eq_true rfl)⟩ (fun f9 H locs hp hG => ?_)
            obtain ⟨hO9, K2, V2, hM, hk9, hk8⟩ := hp
            have hO := hO.tr hO9
            refine lv_goto (tgt := 74) S.1 S.2.1 dX3_put_59 (by decide) ?_
            refine lv_iload_n S.1 S.2.1 dX3_put_74 rfl (lv_at hl 0 rfl) ?_
            exact ret _ _ _ _ _ _ _ _ hG ⟨hO, Or.inr (Or.inr ⟨c_6, by omega, rfl, _, _, hM, hk9, hk8⟩)⟩ rfl (Nat.le_of_ble_eq_true rfl) (Nat.le_of_ble_eq_true rfl) dX3_put_75
        · skip
          exact absurd c_44 (by decide)
      · skip
        refine lv_iconst (v := (nI 1)) S.1 S.2.1 dX3_put_32 (by decide) ?_
        refine lv_goto (tgt := 37) S.1 S.2.1 dX3_put_33 (by decide) ?_
        refine o_put S hG i_X3 tyX3_ok nmX3 (by decide) hM.1 rfl 0 (by decide) kf_29 rfl rfl rfl (Nat.le_of_ble_eq_true rfl) dX3_put_37 (fun H locs hG => ?_)
        obtain ⟨f_5, ef_5, hG⟩ := ov_name hG
        have hM := hM.u0 (cd2 := 1) ef_5
        have hO := hO.up ef_5 (by decide)
        refine lv_aload_n S.1 S.2.1 dX3_put_40 rfl (lv_at hl 1 rfl) ?_
        refine o_get S hG i_X3 (by decide) hM.1 rfl 0 (by decide) kf_29 rfl dX3_put_41 ?_
        refine lv_if_le (tgt := 49) S.1 S.2.1 dX3_put_44 (by decide) (fun c_44 => ?_) (fun c_44 => ?_)
        · skip
          exact absurd c_44 (by decide)
        · skip
          refine lv_iconst (v := (nI 0)) S.1 S.2.1 dX3_put_47 (by decide) ?_
          exact ret _ _ _ _ _ _ _ _ hG ⟨hO, Or.inr (Or.inl ⟨c_6, c_29, hM⟩)⟩ rfl (Nat.le_of_ble_eq_true rfl) (Nat.le_of_ble_eq_true rfl) dX3_put_48

theorem hs_lt {n : Nat} {k : Nat → Int32} {x : Int32} (h : hs n k x = true) : bel n k x + 1 ≤ n := (of_decide_eq_true h).1
theorem cut_le {n : Nat} {k : Nat → Int32} {lo hi : Int32} (hn : n ≤ 600) : bel n k lo + man n k lo hi ≤ n := by
  have h1 := bel_le n k lo
  have h2 := upt_le n k hi hn
  unfold man
  by_cases c : hi < lo
  · rw [if_pos c]; omega
  · rw [if_neg c]
    have h3 := man_le (n := n) (k := k) (lo := lo) (hi := hi) hn (i32_of_nlt c)
    omega

set_option maxHeartbeats 4000000 in
set_option maxRecDepth 100000 in
theorem c_X3_remove (l : Launch) (G : Gx) (ad : Nat → Nat) (s0 : Nat) (f : Nat → va_E) (cd : Nat) (K V : Nat → Int32) (sz : Nat → Nat) (th : Nat → Bool) (pl : Nat → Int) (dn : Nat → Bool) (key : Int32) (hM : MB G ad f cd K V sz th pl dn) (hW : ∀ j, j < 21 → th j = true → sz j ≤ 600) (h00 : th 0 = true) : mI l yX3_remove wsX3_remove 2 46 0 0 [.ref (ad 76), .int key] G 84 ad s0 f (fun r f' => OnM f f' ∧ ((hs (sz 0) (of K 0) key = true ∧ r = V (bel (sz 0) (of K 0) key) ∧ ∃ K2 V2, MB G ad f' 0 K2 V2 (va_up sz 0 (sz 0 - 1)) th pl dn ∧ (∀ i, i < sz 0 - 1 → K2 i = delF K (bel (sz 0) (of K 0) key) 1 i ∧ V2 i = delF V (bel (sz 0) (of K 0) key) 1 i) ∧ ∀ i, 600 ≤ i → K2 i = K i ∧ V2 i = V i) ∨ (hs (sz 0) (of K 0) key = false ∧ MB G ad f' 1 K V sz th pl dn))) := by
  refine ov_mI (cc := cX3_remove) (maxL := 4) (ty := .int) (by decide) rfl (Nat.le_of_ble_eq_true rfl) ?_
  intro p e s m below meth c av Q S ret hG ls hl
  have S : CallFix p m c cX3_remove 4 s av wsX3_remove RX3 := S
  have hl : lv_has ls 4 [(0, .ref (ad 76)), (1, .int key)] := hl
  have i_X3 : ∀ w ∈ u_ws RX3 TX3 7, w ∈ wsX3_remove := by decide +kernel
  have kf_13 := S.2.2.2.2 (.fieldLink RX3 13 "OrderedVersionsModel" "values" "[I") (by decide +kernel)
  have kf_29 := S.2.2.2.2 (.fieldLink RX3 29 "OrderedVersionsModel" "code" "I") (by decide +kernel)
  have hO : OnM f f := OnM.rf
  have hn0 := hW 0 (by decide) h00
  refine lv_aload_n S.1 S.2.1 dX3_remove_0 rfl (lv_at hl 0 rfl) ?_
  refine lv_aload_n S.1 S.2.1 dX3_remove_1 rfl (lv_at hl 0 rfl) ?_
  refine lv_iconst (v := (nI 0)) S.1 S.2.1 dX3_remove_2 (by decide) ?_
  refine lv_iload_n S.1 S.2.1 dX3_remove_3 rfl (lv_at hl 1 rfl) ?_
  refine o_cVi S (rest := [.ref (ad 76)]) (c_X3_has l G ad s0 f cd K V sz th pl dn 0 key hM (by omega) (by omega)) (cwV 2 S.2.2.2.2 gX3_remove_X3_has rfl rfl rfl (by decide +kernel) ⟨(Nat.le_of_ble_eq_true rfl), (Nat.le_of_ble_eq_true rfl)⟩) hG (by decide) hM.1 rfl rfl hl.1 rfl (Nat.le_of_ble_eq_true rfl) dX3_remove_4 ⟨(Nat.le_of_ble_eq_true rfl), (Nat.le_of_ble_eq_true rfl)⟩ (fun r9 f9 H locs hp hG => ?_)
  obtain ⟨rfl, rfl⟩ := hp
  refine b_if_eq S (b := (hs (sz 0) (of K 0) key)) (tgt := 14) dX3_remove_7 (by decide) (fun c_7 => ?_) (fun c_7 => ?_)
  · skip
    refine lv_iconst (v := (nI 1)) S.1 S.2.1 dX3_remove_14 (by decide) ?_
    refine o_put S hG i_X3 tyX3_ok nmX3 (by decide) hM.1 rfl 0 (by decide) kf_29 rfl rfl rfl (Nat.le_of_ble_eq_true rfl) dX3_remove_15 (fun H locs hG => ?_)
    obtain ⟨f_1, ef_1, hG⟩ := ov_name hG
    have hM := hM.u0 (cd2 := 1) ef_1
    have hO := hO.up ef_1 (by decide)
    refine lv_aload_n S.1 S.2.1 dX3_remove_18 rfl (lv_at hl 0 rfl) ?_
    refine o_get S hG i_X3 (by decide) hM.1 rfl 0 (by decide) kf_29 rfl dX3_remove_19 ?_
    refine lv_if_le (tgt := 27) S.1 S.2.1 dX3_remove_22 (by decide) (fun c_22 => ?_) (fun c_22 => ?_)
    · skip
      exact absurd c_22 (by decide)
    · skip
      refine lv_iconst (v := (nI 0)) S.1 S.2.1 dX3_remove_25 (by decide) ?_
      exact ret _ _ _ _ _ _ _ _ hG ⟨hO, Or.inr ⟨c_7, hM⟩⟩ rfl (Nat.le_of_ble_eq_true rfl) (Nat.le_of_ble_eq_true rfl) dX3_remove_26
  · skip
    refine lv_iconst (v := (nI 0)) S.1 S.2.1 dX3_remove_10 (by decide) ?_
    refine lv_goto (tgt := 15) S.1 S.2.1 dX3_remove_11 (by decide) ?_
    refine o_put S hG i_X3 tyX3_ok nmX3 (by decide) hM.1 rfl 0 (by decide) kf_29 rfl rfl rfl (Nat.le_of_ble_eq_true rfl) dX3_remove_15 (fun H locs hG => ?_)
    obtain ⟨f_2, ef_2, hG⟩ := ov_name hG
    have hM := hM.u0 (cd2 := 0) ef_2
    have hO := hO.up ef_2 (by decide)
    refine lv_aload_n S.1 S.2.1 dX3_remove_18 rfl (lv_at hl 0 rfl) ?_
    refine o_get S hG i_X3 (by decide) hM.1 rfl 0 (by decide) kf_29 rfl dX3_remove_19 ?_
    refine lv_if_le (tgt := 27) S.1 S.2.1 dX3_remove_22 (by decide) (fun c_22 => ?_) (fun c_22 => ?_)
    · skip
      refine lv_aload_n S.1 S.2.1 dX3_remove_27 rfl (lv_at hl 0 rfl) ?_
      refine lv_iconst (v := (nI 0)) S.1 S.2.1 dX3_remove_28 (by decide) ?_
      refine lv_iload_n S.1 S.2.1 dX3_remove_29 rfl (lv_at hl 1 rfl) ?_
      refine o_cVi S (rest := []) (c_X3_below l G ad s0 f_2 0 K V sz th pl dn 0 key hM (by omega) (by omega)) (cwV 2 S.2.2.2.2 gX3_remove_X3_below rfl rfl rfl (by decide +kernel) ⟨(Nat.le_of_ble_eq_true rfl), (Nat.le_of_ble_eq_true rfl)⟩) hG (by decide) hM.1 rfl rfl hl.1 rfl (Nat.le_of_ble_eq_true rfl) dX3_remove_30 ⟨(Nat.le_of_ble_eq_true rfl), (Nat.le_of_ble_eq_true rfl)⟩ (fun r9 f9 H locs hp hG => ?_)
      obtain ⟨rfl, rfl⟩ := hp
      have lb_3 := bel_le (sz 0) (of K 0) key
      refine lv_istore_n (lv' := [(2, .int (nI (bel (sz 0) (of K 0) key))), (0, .ref (ad 76)), (1, .int key)]) S.1 S.2.1 dX3_remove_33 rfl hl (by decide) rfl (fun ls hl => ?_)
      refine lv_aload_n S.1 S.2.1 dX3_remove_34 rfl (lv_at hl 1 rfl) ?_
      refine o_get S hG i_X3 (by decide) hM.1 rfl 2 (by decide) kf_13 rfl dX3_remove_35 ?_
      refine lv_iload_n S.1 S.2.1 dX3_remove_38 rfl (lv_at hl 0 rfl) ?_
      refine o_iald S hG (j := bel (sz 0) (of K 0) key) (by decide) hM.2.2.1 (by omega) dX3_remove_39 (kk := ?_)
      refine lv_istore_n (lv' := [(3, .int (V (bel (sz 0) (of K 0) key))), (2, .int (nI (bel (sz 0) (of K 0) key))), (0, .ref (ad 76)), (1, .int key)]) S.1 S.2.1 dX3_remove_40 rfl hl (by decide) rfl (fun ls hl => ?_)
      refine lv_aload_n S.1 S.2.1 dX3_remove_41 rfl (lv_at hl 2 rfl) ?_
      refine lv_iload_n S.1 S.2.1 dX3_remove_42 rfl (lv_at hl 1 rfl) ?_
      refine lv_iconst (v := (nI 1)) S.1 S.2.1 dX3_remove_43 (by decide) ?_
      refine o_cVv S (rest := []) (c_X3_takeOut l G ad s0 f_2 0 K V sz th pl dn (bel (sz 0) (of K 0) key) 1 hM hn0 (hs_lt c_7)) (cwV 2 S.2.2.2.2 gX3_remove_X3_takeOut rfl rfl rfl (by decide +kernel) ⟨(Nat.le_of_ble_eq_true rfl), (Nat.le_of_ble_eq_true rfl)⟩) hG (by decide) hM.1 rfl rfl hl.1 rfl (Nat.le_of_ble_eq_true rfl) dX3_remove_44 ⟨(Nat.le_of_ble_eq_true rfl), (Nat.le_of_ble_eq_true rfl)⟩ (fun f9 H locs hp hG => ?_)
      obtain ⟨hO9, K2, V2, hM, hk9, hk8⟩ := hp
      have hO := hO.tr hO9
      refine lv_iload_n S.1 S.2.1 dX3_remove_47 rfl (lv_at hl 0 rfl) ?_
      exact ret _ _ _ _ _ _ _ _ hG ⟨hO, Or.inl ⟨c_7, rfl, _, _, hM, hk9, hk8⟩⟩ rfl (Nat.le_of_ble_eq_true rfl) (Nat.le_of_ble_eq_true rfl) dX3_remove_48
    · skip
      exact absurd c_22 (by decide)

set_option maxHeartbeats 4000000 in
set_option maxRecDepth 100000 in
theorem c_X3_cut (l : Launch) (G : Gx) (ad : Nat → Nat) (s0 : Nat) (f : Nat → va_E) (cd : Nat) (K V : Nat → Int32) (sz : Nat → Nat) (th : Nat → Bool) (pl : Nat → Int) (dn : Nat → Bool) (lo hi : Int32) (hM : MB G ad f cd K V sz th pl dn) (hW : ∀ j, j < 21 → th j = true → sz j ≤ 600) (h00 : th 0 = true) : mI l yX3_cut wsX3_cut 4 91 0 0 [.ref (ad 76), .int lo, .int hi] G 84 ad s0 f (fun r f' => OnM f f' ∧ r = nI (man (sz 0) (of K 0) lo hi) ∧ ∃ K2 V2, MB G ad f' 0 K2 V2 (va_up sz 0 (sz 0 - man (sz 0) (of K 0) lo hi)) th pl dn ∧ (∀ i, i < sz 0 - man (sz 0) (of K 0) lo hi → K2 i = delF K (bel (sz 0) (of K 0) lo) (man (sz 0) (of K 0) lo hi) i ∧ V2 i = delF V (bel (sz 0) (of K 0) lo) (man (sz 0) (of K 0) lo hi) i) ∧ ∀ i, 600 ≤ i → K2 i = K i ∧ V2 i = V i) := by
  refine ov_mI (cc := cX3_cut) (maxL := 4) (ty := .int) (by decide) rfl (Nat.le_of_ble_eq_true rfl) ?_
  intro p e s m below meth c av Q S ret hG ls hl
  have S : CallFix p m c cX3_cut 4 s av wsX3_cut RX3 := S
  have hl : lv_has ls 4 [(0, .ref (ad 76)), (1, .int lo), (2, .int hi)] := hl
  have i_X3 : ∀ w ∈ u_ws RX3 TX3 7, w ∈ wsX3_cut := by decide +kernel
  have kf_29 := S.2.2.2.2 (.fieldLink RX3 29 "OrderedVersionsModel" "code" "I") (by decide +kernel)
  have hO : OnM f f := OnM.rf
  have hn0 := hW 0 (by decide) h00
  refine lv_aload_n S.1 S.2.1 dX3_cut_0 rfl (lv_at hl 0 rfl) ?_
  refine lv_iconst (v := (nI 0)) S.1 S.2.1 dX3_cut_1 (by decide) ?_
  refine o_put S hG i_X3 tyX3_ok nmX3 (by decide) hM.1 rfl 0 (by decide) kf_29 rfl rfl rfl (Nat.le_of_ble_eq_true rfl) dX3_cut_2 (fun H locs hG => ?_)
  obtain ⟨f_1, ef_1, hG⟩ := ov_name hG
  have hM := hM.u0 (cd2 := 0) ef_1
  have hO := hO.up ef_1 (by decide)
  refine lv_aload_n S.1 S.2.1 dX3_cut_5 rfl (lv_at hl 0 rfl) ?_
  refine lv_iconst (v := (nI 0)) S.1 S.2.1 dX3_cut_6 (by decide) ?_
  refine lv_iload_n S.1 S.2.1 dX3_cut_7 rfl (lv_at hl 1 rfl) ?_
  refine lv_iload_n S.1 S.2.1 dX3_cut_8 rfl (lv_at hl 2 rfl) ?_
  refine o_cVi S (rest := []) (c_X3_many l G ad s0 f_1 0 K V sz th pl dn 0 lo hi hM (by omega) (by omega)) (cwV 3 S.2.2.2.2 gX3_cut_X3_many rfl rfl rfl (by decide +kernel) ⟨(Nat.le_of_ble_eq_true rfl), (Nat.le_of_ble_eq_true rfl)⟩) hG (by decide) hM.1 rfl rfl hl.1 rfl (Nat.le_of_ble_eq_true rfl) dX3_cut_9 ⟨(Nat.le_of_ble_eq_true rfl), (Nat.le_of_ble_eq_true rfl)⟩ (fun r9 f9 H locs hp hG => ?_)
  obtain ⟨rfl, rfl⟩ := hp
  refine lv_istore_n (lv' := [(3, .int (nI (man (sz 0) (of K 0) lo hi))), (0, .ref (ad 76)), (1, .int lo), (2, .int hi)]) S.1 S.2.1 dX3_cut_12 rfl hl (by decide) rfl (fun ls hl => ?_)
  refine lv_aload_n S.1 S.2.1 dX3_cut_13 rfl (lv_at hl 1 rfl) ?_
  refine lv_aload_n S.1 S.2.1 dX3_cut_14 rfl (lv_at hl 1 rfl) ?_
  refine lv_iconst (v := (nI 0)) S.1 S.2.1 dX3_cut_15 (by decide) ?_
  refine lv_iload_n S.1 S.2.1 dX3_cut_16 rfl (lv_at hl 2 rfl) ?_
  refine o_cVi S (rest := [.ref (ad 76)]) (c_X3_below l G ad s0 f_1 0 K V sz th pl dn 0 lo hM (by omega) (by omega)) (cwV 2 S.2.2.2.2 gX3_cut_X3_below rfl rfl rfl (by decide +kernel) ⟨(Nat.le_of_ble_eq_true rfl), (Nat.le_of_ble_eq_true rfl)⟩) hG (by decide) hM.1 rfl rfl hl.1 rfl (Nat.le_of_ble_eq_true rfl) dX3_cut_17 ⟨(Nat.le_of_ble_eq_true rfl), (Nat.le_of_ble_eq_true rfl)⟩ (fun r9 f9 H locs hp hG => ?_)
  obtain ⟨rfl, rfl⟩ := hp
  have lb_2 := bel_le (sz 0) (of K 0) lo
  refine lv_iload_n S.1 S.2.1 dX3_cut_20 rfl (lv_at hl 0 rfl) ?_
  refine o_cVv S (rest := []) (c_X3_takeOut l G ad s0 f_1 0 K V sz th pl dn (bel (sz 0) (of K 0) lo) (man (sz 0) (of K 0) lo hi) hM hn0 (cut_le hn0)) (cwV 2 S.2.2.2.2 gX3_cut_X3_takeOut rfl rfl rfl (by decide +kernel) ⟨(Nat.le_of_ble_eq_true rfl), (Nat.le_of_ble_eq_true rfl)⟩) hG (by decide) hM.1 rfl rfl hl.1 rfl (Nat.le_of_ble_eq_true rfl) dX3_cut_21 ⟨(Nat.le_of_ble_eq_true rfl), (Nat.le_of_ble_eq_true rfl)⟩ (fun f9 H locs hp hG => ?_)
  obtain ⟨hO9, K2, V2, hM, hk9, hk8⟩ := hp
  have hO := hO.tr hO9
  refine lv_iload_n S.1 S.2.1 dX3_cut_24 rfl (lv_at hl 0 rfl) ?_
  exact ret _ _ _ _ _ _ _ _ hG ⟨hO, rfl, _, _, hM, hk9, hk8⟩ rfl (Nat.le_of_ble_eq_true rfl) (Nat.le_of_ble_eq_true rfl) dX3_cut_25

set_option maxHeartbeats 4000000 in
set_option maxRecDepth 100000 in
theorem c_X3_snapshot (l : Launch) (G : Gx) (ad : Nat → Nat) (s0 : Nat) (f : Nat → va_E) (cd : Nat) (K V : Nat → Int32) (sz : Nat → Nat) (th : Nat → Bool) (pl : Nat → Int) (dn : Nat → Bool)  (hM : MB G ad f cd K V sz th pl dn) (hW : ∀ j, j < 21 → th j = true → sz j ≤ 600) (h00 : th 0 = true) : mI l yX3_snapshot wsX3_snapshot 1 24 0 0 [.ref (ad 76)] G 84 ad s0 f (fun r f' => OnM f f' ∧ ((∃ j, 1 ≤ j ∧ j ≤ 12 ∧ th j = false ∧ (∀ i, 1 ≤ i → i < j → th i = true) ∧ r = nI j ∧ ∃ K2 V2, MB G ad f' 0 K2 V2 (va_up sz j (sz 0)) (va_up th j true) pl dn ∧ (∀ i, i < sz 0 → K2 (600 * j + i) = K (600 * 0 + i) ∧ V2 (600 * j + i) = V (600 * 0 + i)) ∧ ∀ x, x < 600 * j ∨ 600 * j + 600 ≤ x → K2 x = K x ∧ V2 x = V x) ∨ ((∀ i, 1 ≤ i → i ≤ 12 → th i = true) ∧ MB G ad f' 1 K V sz th pl dn))) := by
  refine ov_mI (cc := cX3_snapshot) (maxL := 2) (ty := .int) (by decide) rfl (Nat.le_of_ble_eq_true rfl) ?_
  intro p e s m below meth c av Q S ret hG ls hl
  have S : CallFix p m c cX3_snapshot 2 s av wsX3_snapshot RX3 := S
  have hl : lv_has ls 2 [(0, .ref (ad 76))] := hl
  have i_X3 : ∀ w ∈ u_ws RX3 TX3 7, w ∈ wsX3_snapshot := by decide +kernel
  have kf_19 := S.2.2.2.2 (.fieldLink RX3 19 "OrderedVersionsModel" "there" "[Z") (by decide +kernel)
  have kf_29 := S.2.2.2.2 (.fieldLink RX3 29 "OrderedVersionsModel" "code" "I") (by decide +kernel)
  have hO : OnM f f := OnM.rf
  have hn0 := hW 0 (by decide) h00
  refine lv_aload_n S.1 S.2.1 dX3_snapshot_0 rfl (lv_at hl 0 rfl) ?_
  refine lv_iconst (v := (nI 1)) S.1 S.2.1 dX3_snapshot_1 (by decide) ?_
  refine lv_bipush (v := (nI 12)) S.1 S.2.1 dX3_snapshot_2 (by decide) ?_
  refine o_cVi S (rest := []) (c_X3_spare l G ad s0 f cd K V sz th pl dn 1 12 hM (by decide) (by decide) (by decide)) (cwV 2 S.2.2.2.2 gX3_snapshot_X3_spare rfl rfl rfl (by decide +kernel) ⟨(Nat.le_of_ble_eq_true rfl), (Nat.le_of_ble_eq_true rfl)⟩) hG (by decide) hM.1 rfl rfl hl.1 rfl (Nat.le_of_ble_eq_true rfl) dX3_snapshot_4 ⟨(Nat.le_of_ble_eq_true rfl), (Nat.le_of_ble_eq_true rfl)⟩ (fun r9 f9 H locs hp hG => ?_)
  rcases hp with ⟨rfl, ⟨j, hj1, hj2, hj3, hj4, rfl⟩ | ⟨rfl, hj5⟩⟩
  · skip
    refine lv_istore_n (lv' := [(1, .int (nI j)), (0, .ref (ad 76))]) S.1 S.2.1 dX3_snapshot_7 rfl hl (by decide) rfl (fun ls hl => ?_)
    refine lv_aload_n S.1 S.2.1 dX3_snapshot_8 rfl (lv_at hl 1 rfl) ?_
    refine lv_iload_n S.1 S.2.1 dX3_snapshot_9 rfl (lv_at hl 0 rfl) ?_
    refine lv_if_ge (tgt := 17) S.1 S.2.1 dX3_snapshot_10 (by decide) (fun c_10 => ?_) (fun c_10 => ?_)
    · skip
      refine lv_iconst (v := (nI 0)) S.1 S.2.1 dX3_snapshot_17 (by decide) ?_
      refine o_put S hG i_X3 tyX3_ok nmX3 (by decide) hM.1 rfl 0 (by decide) kf_29 rfl rfl rfl (Nat.le_of_ble_eq_true rfl) dX3_snapshot_18 (fun H locs hG => ?_)
      obtain ⟨f_1, ef_1, hG⟩ := ov_name hG
      have hM := hM.u0 (cd2 := 0) ef_1
      have hO := hO.up ef_1 (by decide)
      refine lv_aload_n S.1 S.2.1 dX3_snapshot_21 rfl (lv_at hl 1 rfl) ?_
      refine o_get S hG i_X3 (by decide) hM.1 rfl 0 (by decide) kf_29 rfl dX3_snapshot_22 ?_
      refine lv_if_le (tgt := 30) S.1 S.2.1 dX3_snapshot_25 (by decide) (fun c_25 => ?_) (fun c_25 => ?_)
      · skip
        refine lv_aload_n S.1 S.2.1 dX3_snapshot_30 rfl (lv_at hl 1 rfl) ?_
        refine o_get S hG i_X3 (by decide) hM.1 rfl 4 (by decide) kf_19 rfl dX3_snapshot_31 ?_
        refine lv_iload_n S.1 S.2.1 dX3_snapshot_34 rfl (lv_at hl 0 rfl) ?_
        refine lv_iconst (v := (nI 1)) S.1 S.2.1 dX3_snapshot_35 (by decide) ?_
        refine o_zast S hG (j := j) (by decide) hM.2.2.2.2.1 (by omega) rfl dX3_snapshot_36 (kk := fun H locs hG => ?_)
        obtain ⟨f_2, ef_2, hG⟩ := ov_name hG
        have hM := hM.uT (j := j) (b := true) ef_2
        have hO := hO.up ef_2 (by decide)
        refine lv_aload_n S.1 S.2.1 dX3_snapshot_37 rfl (lv_at hl 1 rfl) ?_
        refine lv_iconst (v := (nI 0)) S.1 S.2.1 dX3_snapshot_38 (by decide) ?_
        refine lv_iload_n S.1 S.2.1 dX3_snapshot_39 rfl (lv_at hl 0 rfl) ?_
        refine o_cVv S (rest := []) (c_X3_copy l G ad s0 f_2 0 K V sz (va_up th j true) pl dn 0 j hM (by omega) (by omega) (by omega) hn0) (cwV 2 S.2.2.2.2 gX3_snapshot_X3_copy rfl rfl rfl (by decide +kernel) ⟨(Nat.le_of_ble_eq_true rfl), (Nat.le_of_ble_eq_true rfl)⟩) hG (by decide) hM.1 rfl rfl hl.1 rfl (Nat.le_of_ble_eq_true rfl) dX3_snapshot_40 ⟨(Nat.le_of_ble_eq_true rfl), (Nat.le_of_ble_eq_true rfl)⟩ (fun f9 H locs hp hG => ?_)
        obtain ⟨hO9, K2, V2, hM, hk9, hk8⟩ := hp
        have hO := hO.tr hO9
        refine lv_iload_n S.1 S.2.1 dX3_snapshot_43 rfl (lv_at hl 0 rfl) ?_
        exact ret _ _ _ _ _ _ _ _ hG ⟨hO, Or.inl ⟨j, hj1, hj2, hj3, hj4, rfl, _, _, hM, hk9, hk8⟩⟩ rfl (Nat.le_of_ble_eq_true rfl) (Nat.le_of_ble_eq_true rfl) dX3_snapshot_44
      · skip
        exact absurd c_25 (by decide)
    · skip
      exact absurd (nI_pos' (by omega)) c_10
  · skip
    refine lv_istore_n (lv' := [(1, .int (-1)), (0, .ref (ad 76))]) S.1 S.2.1 dX3_snapshot_7 rfl hl (by decide) rfl (fun ls hl => ?_)
    refine lv_aload_n S.1 S.2.1 dX3_snapshot_8 rfl (lv_at hl 1 rfl) ?_
    refine lv_iload_n S.1 S.2.1 dX3_snapshot_9 rfl (lv_at hl 0 rfl) ?_
    refine lv_if_ge (tgt := 17) S.1 S.2.1 dX3_snapshot_10 (by decide) (fun c_10 => ?_) (fun c_10 => ?_)
    · skip
      exact absurd c_10 (by decide)
    · skip
      refine lv_iconst (v := (nI 1)) S.1 S.2.1 dX3_snapshot_13 (by decide) ?_
      refine lv_goto (tgt := 18) S.1 S.2.1 dX3_snapshot_14 (by decide) ?_
      refine o_put S hG i_X3 tyX3_ok nmX3 (by decide) hM.1 rfl 0 (by decide) kf_29 rfl rfl rfl (Nat.le_of_ble_eq_true rfl) dX3_snapshot_18 (fun H locs hG => ?_)
      obtain ⟨f_3, ef_3, hG⟩ := ov_name hG
      have hM := hM.u0 (cd2 := 1) ef_3
      have hO := hO.up ef_3 (by decide)
      refine lv_aload_n S.1 S.2.1 dX3_snapshot_21 rfl (lv_at hl 1 rfl) ?_
      refine o_get S hG i_X3 (by decide) hM.1 rfl 0 (by decide) kf_29 rfl dX3_snapshot_22 ?_
      refine lv_if_le (tgt := 30) S.1 S.2.1 dX3_snapshot_25 (by decide) (fun c_25 => ?_) (fun c_25 => ?_)
      · skip
        exact absurd c_25 (by decide)
      · skip
        refine lv_iconst (v := (nI 0)) S.1 S.2.1 dX3_snapshot_28 (by decide) ?_
        exact ret _ _ _ _ _ _ _ _ hG ⟨hO, Or.inr ⟨hj5, hM⟩⟩ rfl (Nat.le_of_ble_eq_true rfl) (Nat.le_of_ble_eq_true rfl) dX3_snapshot_29

set_option maxHeartbeats 4000000 in
set_option maxRecDepth 100000 in
theorem c_X3_release (l : Launch) (G : Gx) (ad : Nat → Nat) (s0 : Nat) (f : Nat → va_E) (cd : Nat) (K V : Nat → Int32) (sz : Nat → Nat) (th : Nat → Bool) (pl : Nat → Int) (dn : Nat → Bool) (v : Int32) (hM : MB G ad f cd K V sz th pl dn) (hW : ∀ j, j < 21 → th j = true → sz j ≤ 600) (h00 : th 0 = true) : mI l yX3_release wsX3_release 2 42 0 0 [.ref (ad 76), .int v] G 84 ad s0 f (fun r f' => OnM f f' ∧ ((iss th v = true ∧ r = nI (cnt 12 (fun z => va_up th v.toInt.toNat false (z + 1))) ∧ MB G ad f' 0 K V sz (va_up th v.toInt.toNat false) pl dn) ∨ (iss th v = false ∧ MB G ad f' 1 K V sz th pl dn))) := by
  refine ov_mI (cc := cX3_release) (maxL := 4) (ty := .int) (by decide) rfl (Nat.le_of_ble_eq_true rfl) ?_
  intro p e s m below meth c av Q S ret hG ls hl
  have S : CallFix p m c cX3_release 4 s av wsX3_release RX3 := S
  have hl : lv_has ls 4 [(0, .ref (ad 76)), (1, .int v)] := hl
  have i_X3 : ∀ w ∈ u_ws RX3 TX3 7, w ∈ wsX3_release := by decide +kernel
  have kf_19 := S.2.2.2.2 (.fieldLink RX3 19 "OrderedVersionsModel" "there" "[Z") (by decide +kernel)
  have kf_29 := S.2.2.2.2 (.fieldLink RX3 29 "OrderedVersionsModel" "code" "I") (by decide +kernel)
  have hO : OnM f f := OnM.rf
  have hn0 := hW 0 (by decide) h00
  refine lv_aload_n S.1 S.2.1 dX3_release_0 rfl (lv_at hl 0 rfl) ?_
  refine lv_aload_n S.1 S.2.1 dX3_release_1 rfl (lv_at hl 0 rfl) ?_
  refine lv_iload_n S.1 S.2.1 dX3_release_2 rfl (lv_at hl 1 rfl) ?_
  refine o_cVi S (rest := [.ref (ad 76)]) (c_X3_isSnapshot l G ad s0 f cd K V sz th pl dn v hM ) (cwV 1 S.2.2.2.2 gX3_release_X3_isSnapshot rfl rfl rfl (by decide +kernel) ⟨(Nat.le_of_ble_eq_true rfl), (Nat.le_of_ble_eq_true rfl)⟩) hG (by decide) hM.1 rfl rfl hl.1 rfl (Nat.le_of_ble_eq_true rfl) dX3_release_3 ⟨(Nat.le_of_ble_eq_true rfl), (Nat.le_of_ble_eq_true rfl)⟩ (fun r9 f9 H locs hp hG => ?_)
  obtain ⟨rfl, rfl⟩ := hp
  refine b_if_eq S (b := (iss th v)) (tgt := 13) dX3_release_6 (by decide) (fun c_6 => ?_) (fun c_6 => ?_)
  · skip
    refine lv_iconst (v := (nI 1)) S.1 S.2.1 dX3_release_13 (by decide) ?_
    refine o_put S hG i_X3 tyX3_ok nmX3 (by decide) hM.1 rfl 0 (by decide) kf_29 rfl rfl rfl (Nat.le_of_ble_eq_true rfl) dX3_release_14 (fun H locs hG => ?_)
    obtain ⟨f_1, ef_1, hG⟩ := ov_name hG
    have hM := hM.u0 (cd2 := 1) ef_1
    have hO := hO.up ef_1 (by decide)
    refine lv_aload_n S.1 S.2.1 dX3_release_17 rfl (lv_at hl 0 rfl) ?_
    refine o_get S hG i_X3 (by decide) hM.1 rfl 0 (by decide) kf_29 rfl dX3_release_18 ?_
    refine lv_if_le (tgt := 26) S.1 S.2.1 dX3_release_21 (by decide) (fun c_21 => ?_) (fun c_21 => ?_)
    · skip
      exact absurd c_21 (by decide)
    · skip
      refine lv_iconst (v := (nI 0)) S.1 S.2.1 dX3_release_24 (by decide) ?_
      exact ret _ _ _ _ _ _ _ _ hG ⟨hO, Or.inr ⟨c_6, hM⟩⟩ rfl (Nat.le_of_ble_eq_true rfl) (Nat.le_of_ble_eq_true rfl) dX3_release_25
  · skip
    obtain ⟨j, hj1, hj2, rfl, hj3⟩ := iss_ex c_6
    have ej : (nI j).toInt.toNat = j := by rw [nI_toInt (by omega)]; rfl
    refine lv_iconst (v := (nI 0)) S.1 S.2.1 dX3_release_9 (by decide) ?_
    refine lv_goto (tgt := 14) S.1 S.2.1 dX3_release_10 (by decide) ?_
    refine o_put S hG i_X3 tyX3_ok nmX3 (by decide) hM.1 rfl 0 (by decide) kf_29 rfl rfl rfl (Nat.le_of_ble_eq_true rfl) dX3_release_14 (fun H locs hG => ?_)
    obtain ⟨f_2, ef_2, hG⟩ := ov_name hG
    have hM := hM.u0 (cd2 := 0) ef_2
    have hO := hO.up ef_2 (by decide)
    refine lv_aload_n S.1 S.2.1 dX3_release_17 rfl (lv_at hl 0 rfl) ?_
    refine o_get S hG i_X3 (by decide) hM.1 rfl 0 (by decide) kf_29 rfl dX3_release_18 ?_
    refine lv_if_le (tgt := 26) S.1 S.2.1 dX3_release_21 (by decide) (fun c_21 => ?_) (fun c_21 => ?_)
    · skip
      refine lv_aload_n S.1 S.2.1 dX3_release_26 rfl (lv_at hl 0 rfl) ?_
      refine o_get S hG i_X3 (by decide) hM.1 rfl 4 (by decide) kf_19 rfl dX3_release_27 ?_
      refine lv_iload_n S.1 S.2.1 dX3_release_30 rfl (lv_at hl 1 rfl) ?_
      refine lv_iconst (v := (nI 0)) S.1 S.2.1 dX3_release_31 (by decide) ?_
      refine o_zast S hG (j := j) (by decide) hM.2.2.2.2.1 (by omega) rfl dX3_release_32 (kk := fun H locs hG => ?_)
      obtain ⟨f_3, ef_3, hG⟩ := ov_name hG
      have hM := hM.uT (j := j) (b := false) ef_3
      have hO := hO.up ef_3 (by decide)
      refine lv_iconst (v := (nI 0)) S.1 S.2.1 dX3_release_33 (by decide) ?_
      refine lv_istore_n (lv' := [(2, .int (nI 0)), (0, .ref (ad 76)), (1, .int (nI j))]) S.1 S.2.1 dX3_release_34 rfl hl (by decide) rfl (fun ls hl => ?_)
      refine lv_iconst (v := (nI 1)) S.1 S.2.1 dX3_release_35 (by decide) ?_
      refine lv_istore_n (lv' := [(3, .int (nI 1)), (2, .int (nI 0)), (0, .ref (ad 76)), (1, .int (nI j))]) S.1 S.2.1 dX3_release_36 rfl hl (by decide) rfl (fun ls hl => ?_)
      have L_37 : ∀ (d9 : Nat) (c0 : Nat) (i : Nat) (H : Heap) (locs : List Loc), (i ≤ 12) → (c0 = cnt i (fun z => va_up th j false (z + 1))) → (12 - i) < d9 → ov_dy G 84 ad s0 s f_3 H locs → ∀ ls : Array Slot, lv_has ls 4 [(0, .ref (ad 76)), (1, .int (nI j)), (2, .int (nI c0)), (3, .int (nI (i + 1)))] → W p l e (ov_rm 2 42 0 0) s m av below meth c H locs 0 0 Q (F0 m 37 ls []) := by
        intro d9
        induction d9 with
        | zero => intro c0 i H locs hi hc h9; exact absurd h9 (Nat.not_lt_zero _)
        | succ d9 ih_37 =>
          intro c0 i H locs hi hc h9 hG ls hl
          refine lv_iload_n S.1 S.2.1 dX3_release_37 rfl (lv_at hl 3 rfl) ?_
          refine lv_bipush (v := (nI 12)) S.1 S.2.1 dX3_release_38 (by decide) ?_
          refine n_gt S (a := i + 1) (b := 12) (tgt := 66) dX3_release_40 (by decide) (by omega) (by omega) (fun c_40 => ?_) (fun c_40 => ?_)
          · skip
            refine lv_iload_n S.1 S.2.1 dX3_release_66 rfl (lv_at hl 2 rfl) ?_
            exact ret _ _ _ _ _ _ _ _ hG ⟨hO, Or.inl ⟨c_6, by rw [ej, hc, show i = 12 by omega], by rw [ej]; exact hM⟩⟩ rfl (Nat.le_of_ble_eq_true rfl) (Nat.le_of_ble_eq_true rfl) dX3_release_67
          · skip
            refine lv_iload_n S.1 S.2.1 dX3_release_43 rfl (lv_at hl 2 rfl) ?_
            refine lv_aload_n S.1 S.2.1 dX3_release_44 rfl (lv_at hl 0 rfl) ?_
            refine o_get S hG i_X3 (by decide) hM.1 rfl 4 (by decide) kf_19 rfl dX3_release_45 ?_
            refine lv_iload_n S.1 S.2.1 dX3_release_48 rfl (lv_at hl 3 rfl) ?_
            refine o_zald S hG (j := i + 1) (by decide) hM.2.2.2.2.1 (by omega) dX3_release_49 (kk := ?_)
            refine b_if_eq S (b := (va_up th j false) (i + 1)) (tgt := 57) dX3_release_50 (by decide) (fun c_50 => ?_) (fun c_50 => ?_)
            · skip
              refine lv_iconst (v := (nI 0)) S.1 S.2.1 dX3_release_57 (by decide) ?_
              refine o_add S (a := c0) (b := 0) dX3_release_58 ?_
              refine lv_istore_n (lv' := [(2, .int (nI (c0 + 0))), (0, .ref (ad 76)), (1, .int (nI j)), (3, .int (nI (i + 1)))]) S.1 S.2.1 dX3_release_59 rfl hl (by decide) rfl (fun ls hl => ?_)
              refine lv_iinc (v := (nI (i + 1 + 1))) (lv' := [(3, .int (nI (i + 1 + 1))), (2, .int (nI (c0 + 0))), (0, .ref (ad 76)), (1, .int (nI j))]) S.1 S.2.1 dX3_release_60 hl (k := 3) rfl (nI_add (i + 1) 1) (by decide) rfl (fun ls hl => ?_)
              refine lv_goto (tgt := 37) S.1 S.2.1 dX3_release_63 (by decide) ?_
              exact ih_37 (c0 + 0) (i + 1) _ _ (by omega) (by rw [hc]; exact (cnt_f (n := i) (p := fun z => va_up th j false (z + 1)) c_50).symm) (by omega) hG ls (lv_sub hl [2, 3, 1, 0] rfl)
            · skip
              refine lv_iconst (v := (nI 1)) S.1 S.2.1 dX3_release_53 (by decide) ?_
              refine lv_goto (tgt := 58) S.1 S.2.1 dX3_release_54 (by decide) ?_
              refine o_add S (a := c0) (b := 1) dX3_release_58 ?_
              refine lv_istore_n (lv' := [(2, .int (nI (c0 + 1))), (0, .ref (ad 76)), (1, .int (nI j)), (3, .int (nI (i + 1)))]) S.1 S.2.1 dX3_release_59 rfl hl (by decide) rfl (fun ls hl => ?_)
              refine lv_iinc (v := (nI (i + 1 + 1))) (lv' := [(3, .int (nI (i + 1 + 1))), (2, .int (nI (c0 + 1))), (0, .ref (ad 76)), (1, .int (nI j))]) S.1 S.2.1 dX3_release_60 hl (k := 3) rfl (nI_add (i + 1) 1) (by decide) rfl (fun ls hl => ?_)
              refine lv_goto (tgt := 37) S.1 S.2.1 dX3_release_63 (by decide) ?_
              exact ih_37 (c0 + 1) (i + 1) _ _ (by omega) (by rw [hc]; exact (cnt_t (n := i) (p := fun z => va_up th j false (z + 1)) c_50).symm) (by omega) hG ls (lv_sub hl [2, 3, 1, 0] rfl)
      exact L_37 _ 0 0 _ _ (by decide) rfl (Nat.lt_succ_self _) hG ls (lv_sub hl [2, 3, 1, 0] rfl)
    · skip
      exact absurd c_21 (by decide)

set_option maxHeartbeats 4000000 in
set_option maxRecDepth 100000 in
theorem c_X3_restore (l : Launch) (G : Gx) (ad : Nat → Nat) (s0 : Nat) (f : Nat → va_E) (cd : Nat) (K V : Nat → Int32) (sz : Nat → Nat) (th : Nat → Bool) (pl : Nat → Int) (dn : Nat → Bool) (v : Int32) (hM : MB G ad f cd K V sz th pl dn) (hW : ∀ j, j < 21 → th j = true → sz j ≤ 600) (h00 : th 0 = true) : mI l yX3_restore wsX3_restore 2 42 0 0 [.ref (ad 76), .int v] G 84 ad s0 f (fun r f' => OnM f f' ∧ ((∃ j, 1 ≤ j ∧ j ≤ 12 ∧ v = nI j ∧ th j = true ∧ r = nI (sz j) ∧ ∃ K2 V2, MB G ad f' 0 K2 V2 (va_up sz 0 (sz j)) th pl dn ∧ (∀ i, i < sz j → K2 (600 * 0 + i) = K (600 * j + i) ∧ V2 (600 * 0 + i) = V (600 * j + i)) ∧ ∀ x, x < 600 * 0 ∨ 600 * 0 + 600 ≤ x → K2 x = K x ∧ V2 x = V x) ∨ (iss th v = false ∧ MB G ad f' 1 K V sz th pl dn))) := by
  refine ov_mI (cc := cX3_restore) (maxL := 2) (ty := .int) (by decide) rfl (Nat.le_of_ble_eq_true rfl) ?_
  intro p e s m below meth c av Q S ret hG ls hl
  have S : CallFix p m c cX3_restore 2 s av wsX3_restore RX3 := S
  have hl : lv_has ls 2 [(0, .ref (ad 76)), (1, .int v)] := hl
  have i_X3 : ∀ w ∈ u_ws RX3 TX3 7, w ∈ wsX3_restore := by decide +kernel
  have kf_16 := S.2.2.2.2 (.fieldLink RX3 16 "OrderedVersionsModel" "sizes" "[I") (by decide +kernel)
  have kf_29 := S.2.2.2.2 (.fieldLink RX3 29 "OrderedVersionsModel" "code" "I") (by decide +kernel)
  have hO : OnM f f := OnM.rf
  have hn0 := hW 0 (by decide) h00
  refine lv_aload_n S.1 S.2.1 dX3_restore_0 rfl (lv_at hl 0 rfl) ?_
  refine lv_aload_n S.1 S.2.1 dX3_restore_1 rfl (lv_at hl 0 rfl) ?_
  refine lv_iload_n S.1 S.2.1 dX3_restore_2 rfl (lv_at hl 1 rfl) ?_
  refine o_cVi S (rest := [.ref (ad 76)]) (c_X3_isSnapshot l G ad s0 f cd K V sz th pl dn v hM ) (cwV 1 S.2.2.2.2 gX3_restore_X3_isSnapshot rfl rfl rfl (by decide +kernel) ⟨(Nat.le_of_ble_eq_true rfl), (Nat.le_of_ble_eq_true rfl)⟩) hG (by decide) hM.1 rfl rfl hl.1 rfl (Nat.le_of_ble_eq_true rfl) dX3_restore_3 ⟨(Nat.le_of_ble_eq_true rfl), (Nat.le_of_ble_eq_true rfl)⟩ (fun r9 f9 H locs hp hG => ?_)
  obtain ⟨rfl, rfl⟩ := hp
  refine b_if_eq S (b := (iss th v)) (tgt := 13) dX3_restore_6 (by decide) (fun c_6 => ?_) (fun c_6 => ?_)
  · skip
    refine lv_iconst (v := (nI 1)) S.1 S.2.1 dX3_restore_13 (by decide) ?_
    refine o_put S hG i_X3 tyX3_ok nmX3 (by decide) hM.1 rfl 0 (by decide) kf_29 rfl rfl rfl (Nat.le_of_ble_eq_true rfl) dX3_restore_14 (fun H locs hG => ?_)
    obtain ⟨f_1, ef_1, hG⟩ := ov_name hG
    have hM := hM.u0 (cd2 := 1) ef_1
    have hO := hO.up ef_1 (by decide)
    refine lv_aload_n S.1 S.2.1 dX3_restore_17 rfl (lv_at hl 0 rfl) ?_
    refine o_get S hG i_X3 (by decide) hM.1 rfl 0 (by decide) kf_29 rfl dX3_restore_18 ?_
    refine lv_if_le (tgt := 26) S.1 S.2.1 dX3_restore_21 (by decide) (fun c_21 => ?_) (fun c_21 => ?_)
    · skip
      exact absurd c_21 (by decide)
    · skip
      refine lv_iconst (v := (nI 0)) S.1 S.2.1 dX3_restore_24 (by decide) ?_
      exact ret _ _ _ _ _ _ _ _ hG ⟨hO, Or.inr ⟨c_6, hM⟩⟩ rfl (Nat.le_of_ble_eq_true rfl) (Nat.le_of_ble_eq_true rfl) dX3_restore_25
  · skip
    obtain ⟨j, hj1, hj2, rfl, hj3⟩ := iss_ex c_6
    refine lv_iconst (v := (nI 0)) S.1 S.2.1 dX3_restore_9 (by decide) ?_
    refine lv_goto (tgt := 14) S.1 S.2.1 dX3_restore_10 (by decide) ?_
    refine o_put S hG i_X3 tyX3_ok nmX3 (by decide) hM.1 rfl 0 (by decide) kf_29 rfl rfl rfl (Nat.le_of_ble_eq_true rfl) dX3_restore_14 (fun H locs hG => ?_)
    obtain ⟨f_2, ef_2, hG⟩ := ov_name hG
    have hM := hM.u0 (cd2 := 0) ef_2
    have hO := hO.up ef_2 (by decide)
    refine lv_aload_n S.1 S.2.1 dX3_restore_17 rfl (lv_at hl 0 rfl) ?_
    refine o_get S hG i_X3 (by decide) hM.1 rfl 0 (by decide) kf_29 rfl dX3_restore_18 ?_
    refine lv_if_le (tgt := 26) S.1 S.2.1 dX3_restore_21 (by decide) (fun c_21 => ?_) (fun c_21 => ?_)
    · skip
      refine lv_aload_n S.1 S.2.1 dX3_restore_26 rfl (lv_at hl 0 rfl) ?_
      refine lv_iload_n S.1 S.2.1 dX3_restore_27 rfl (lv_at hl 1 rfl) ?_
      refine lv_iconst (v := (nI 0)) S.1 S.2.1 dX3_restore_28 (by decide) ?_
      refine o_cVv S (rest := []) (c_X3_copy l G ad s0 f_2 0 K V sz th pl dn j 0 hM (by omega) (by omega) (by omega) (hW j (by omega) hj3)) (cwV 2 S.2.2.2.2 gX3_restore_X3_copy rfl rfl rfl (by decide +kernel) ⟨(Nat.le_of_ble_eq_true rfl), (Nat.le_of_ble_eq_true rfl)⟩) hG (by decide) hM.1 rfl rfl hl.1 rfl (Nat.le_of_ble_eq_true rfl) dX3_restore_29 ⟨(Nat.le_of_ble_eq_true rfl), (Nat.le_of_ble_eq_true rfl)⟩ (fun f9 H locs hp hG => ?_)
      obtain ⟨hO9, K2, V2, hM, hk9, hk8⟩ := hp
      have hO := hO.tr hO9
      refine lv_aload_n S.1 S.2.1 dX3_restore_32 rfl (lv_at hl 0 rfl) ?_
      refine o_get S hG i_X3 (by decide) hM.1 rfl 3 (by decide) kf_16 rfl dX3_restore_33 ?_
      refine lv_iconst (v := (nI 0)) S.1 S.2.1 dX3_restore_36 (by decide) ?_
      refine o_iald S hG (j := 0) (by decide) hM.2.2.2.1 (by omega) dX3_restore_37 (kk := ?_)
      refine o_top (congrArg nI (va_up_self sz 0 (sz j))) ?_
      exact ret _ _ _ _ _ _ _ _ hG ⟨hO, Or.inl ⟨j, hj1, hj2, rfl, hj3, rfl, _, _, hM, hk9, hk8⟩⟩ rfl (Nat.le_of_ble_eq_true rfl) (Nat.le_of_ble_eq_true rfl) dX3_restore_38
    · skip
      exact absurd c_21 (by decide)

set_option maxHeartbeats 4000000 in
set_option maxRecDepth 100000 in
theorem c_X3_size (l : Launch) (G : Gx) (ad : Nat → Nat) (s0 : Nat) (f : Nat → va_E) (cd : Nat) (K V : Nat → Int32) (sz : Nat → Nat) (th : Nat → Bool) (pl : Nat → Int) (dn : Nat → Bool) (v : Int32) (hM : MB G ad f cd K V sz th pl dn) (hW : ∀ j, j < 21 → th j = true → sz j ≤ 600) (h00 : th 0 = true) : mI l yX3_size wsX3_size 1 21 0 0 [.ref (ad 76), .int v] G 84 ad s0 f (fun r f' => OnM f f' ∧ ((∃ j, j ≤ 12 ∧ v = nI j ∧ th j = true ∧ r = nI (sz j) ∧ MB G ad f' 0 K V sz th pl dn) ∨ (isv th v = false ∧ MB G ad f' 1 K V sz th pl dn))) := by
  refine ov_mI (cc := cX3_size) (maxL := 2) (ty := .int) (by decide) rfl (Nat.le_of_ble_eq_true rfl) ?_
  intro p e s m below meth c av Q S ret hG ls hl
  have S : CallFix p m c cX3_size 2 s av wsX3_size RX3 := S
  have hl : lv_has ls 2 [(0, .ref (ad 76)), (1, .int v)] := hl
  have i_X3 : ∀ w ∈ u_ws RX3 TX3 7, w ∈ wsX3_size := by decide +kernel
  have kf_16 := S.2.2.2.2 (.fieldLink RX3 16 "OrderedVersionsModel" "sizes" "[I") (by decide +kernel)
  have kf_29 := S.2.2.2.2 (.fieldLink RX3 29 "OrderedVersionsModel" "code" "I") (by decide +kernel)
  have hO : OnM f f := OnM.rf
  refine lv_aload_n S.1 S.2.1 dX3_size_0 rfl (lv_at hl 0 rfl) ?_
  refine lv_aload_n S.1 S.2.1 dX3_size_1 rfl (lv_at hl 0 rfl) ?_
  refine lv_iload_n S.1 S.2.1 dX3_size_2 rfl (lv_at hl 1 rfl) ?_
  refine o_cVi S (rest := [.ref (ad 76)]) (c_X3_isVersion l G ad s0 f cd K V sz th pl dn v hM ) (cwV 1 S.2.2.2.2 gX3_size_X3_isVersion rfl rfl rfl (by decide +kernel) ⟨(Nat.le_of_ble_eq_true rfl), (Nat.le_of_ble_eq_true rfl)⟩) hG (by decide) hM.1 rfl rfl hl.1 rfl (Nat.le_of_ble_eq_true rfl) dX3_size_3 ⟨(Nat.le_of_ble_eq_true rfl), (Nat.le_of_ble_eq_true rfl)⟩ (fun r9 f9 H locs hp hG => ?_)
  obtain ⟨rfl, rfl⟩ := hp
  refine b_if_eq S (b := (isv th v)) (tgt := 13) dX3_size_6 (by decide) (fun c_6 => ?_) (fun c_6 => ?_)
  · skip
    refine lv_iconst (v := (nI 1)) S.1 S.2.1 dX3_size_13 (by decide) ?_
    refine o_put S hG i_X3 tyX3_ok nmX3 (by decide) hM.1 rfl 0 (by decide) kf_29 rfl rfl rfl (Nat.le_of_ble_eq_true rfl) dX3_size_14 (fun H locs hG => ?_)
    obtain ⟨f_1, ef_1, hG⟩ := ov_name hG
    have hM := hM.u0 (cd2 := 1) ef_1
    have hO := hO.up ef_1 (by decide)
    refine lv_aload_n S.1 S.2.1 dX3_size_17 rfl (lv_at hl 0 rfl) ?_
    refine o_get S hG i_X3 (by decide) hM.1 rfl 0 (by decide) kf_29 rfl dX3_size_18 ?_
    refine lv_if_le (tgt := 28) S.1 S.2.1 dX3_size_21 (by decide) (fun c_21 => ?_) (fun c_21 => ?_)
    · skip
      exact absurd c_21 (by decide)
    · skip
      refine lv_iconst (v := (nI 0)) S.1 S.2.1 dX3_size_24 (by decide) ?_
      refine lv_goto (tgt := 34) S.1 S.2.1 dX3_size_25 (by decide) ?_
      exact ret _ _ _ _ _ _ _ _ hG ⟨hO, Or.inr ⟨c_6, hM⟩⟩ rfl (Nat.le_of_ble_eq_true rfl) (Nat.le_of_ble_eq_true rfl) dX3_size_34
  · skip
    obtain ⟨j, hj2, rfl, hj3⟩ := isv_ex c_6
    have hnj := hW j (by omega) hj3
    refine lv_iconst (v := (nI 0)) S.1 S.2.1 dX3_size_9 (by decide) ?_
    refine lv_goto (tgt := 14) S.1 S.2.1 dX3_size_10 (by decide) ?_
    refine o_put S hG i_X3 tyX3_ok nmX3 (by decide) hM.1 rfl 0 (by decide) kf_29 rfl rfl rfl (Nat.le_of_ble_eq_true rfl) dX3_size_14 (fun H locs hG => ?_)
    obtain ⟨f_2, ef_2, hG⟩ := ov_name hG
    have hM := hM.u0 (cd2 := 0) ef_2
    have hO := hO.up ef_2 (by decide)
    refine lv_aload_n S.1 S.2.1 dX3_size_17 rfl (lv_at hl 0 rfl) ?_
    refine o_get S hG i_X3 (by decide) hM.1 rfl 0 (by decide) kf_29 rfl dX3_size_18 ?_
    refine lv_if_le (tgt := 28) S.1 S.2.1 dX3_size_21 (by decide) (fun c_21 => ?_) (fun c_21 => ?_)
    · skip
      refine lv_aload_n S.1 S.2.1 dX3_size_28 rfl (lv_at hl 0 rfl) ?_
      refine o_get S hG i_X3 (by decide) hM.1 rfl 3 (by decide) kf_16 rfl dX3_size_29 ?_
      refine lv_iload_n S.1 S.2.1 dX3_size_32 rfl (lv_at hl 1 rfl) ?_
      refine o_iald S hG (j := j) (by decide) hM.2.2.2.1 (by omega) dX3_size_33 (kk := ?_)
      exact ret _ _ _ _ _ _ _ _ hG ⟨hO, Or.inl ⟨j, hj2, rfl, hj3, rfl, hM⟩⟩ rfl (Nat.le_of_ble_eq_true rfl) (Nat.le_of_ble_eq_true rfl) dX3_size_34
    · skip
      exact absurd c_21 (by decide)

set_option maxHeartbeats 4000000 in
set_option maxRecDepth 100000 in
theorem c_X3_rank (l : Launch) (G : Gx) (ad : Nat → Nat) (s0 : Nat) (f : Nat → va_E) (cd : Nat) (K V : Nat → Int32) (sz : Nat → Nat) (th : Nat → Bool) (pl : Nat → Int) (dn : Nat → Bool) (v key : Int32) (hM : MB G ad f cd K V sz th pl dn) (hW : ∀ j, j < 21 → th j = true → sz j ≤ 600) (h00 : th 0 = true) : mI l yX3_rank wsX3_rank 1 23 0 0 [.ref (ad 76), .int v, .int key] G 84 ad s0 f (fun r f' => OnM f f' ∧ ((∃ j, j ≤ 12 ∧ v = nI j ∧ th j = true ∧ r = nI (bel (sz j) (of K j) key) ∧ MB G ad f' 0 K V sz th pl dn) ∨ (isv th v = false ∧ MB G ad f' 1 K V sz th pl dn))) := by
  refine ov_mI (cc := cX3_rank) (maxL := 3) (ty := .int) (by decide) rfl (Nat.le_of_ble_eq_true rfl) ?_
  intro p e s m below meth c av Q S ret hG ls hl
  have S : CallFix p m c cX3_rank 3 s av wsX3_rank RX3 := S
  have hl : lv_has ls 3 [(0, .ref (ad 76)), (1, .int v), (2, .int key)] := hl
  have i_X3 : ∀ w ∈ u_ws RX3 TX3 7, w ∈ wsX3_rank := by decide +kernel
  have kf_29 := S.2.2.2.2 (.fieldLink RX3 29 "OrderedVersionsModel" "code" "I") (by decide +kernel)
  have hO : OnM f f := OnM.rf
  refine lv_aload_n S.1 S.2.1 dX3_rank_0 rfl (lv_at hl 0 rfl) ?_
  refine lv_aload_n S.1 S.2.1 dX3_rank_1 rfl (lv_at hl 0 rfl) ?_
  refine lv_iload_n S.1 S.2.1 dX3_rank_2 rfl (lv_at hl 1 rfl) ?_
  refine o_cVi S (rest := [.ref (ad 76)]) (c_X3_isVersion l G ad s0 f cd K V sz th pl dn v hM ) (cwV 1 S.2.2.2.2 gX3_rank_X3_isVersion rfl rfl rfl (by decide +kernel) ⟨(Nat.le_of_ble_eq_true rfl), (Nat.le_of_ble_eq_true rfl)⟩) hG (by decide) hM.1 rfl rfl hl.1 rfl (Nat.le_of_ble_eq_true rfl) dX3_rank_3 ⟨(Nat.le_of_ble_eq_true rfl), (Nat.le_of_ble_eq_true rfl)⟩ (fun r9 f9 H locs hp hG => ?_)
  obtain ⟨rfl, rfl⟩ := hp
  refine b_if_eq S (b := (isv th v)) (tgt := 13) dX3_rank_6 (by decide) (fun c_6 => ?_) (fun c_6 => ?_)
  · skip
    refine lv_iconst (v := (nI 1)) S.1 S.2.1 dX3_rank_13 (by decide) ?_
    refine o_put S hG i_X3 tyX3_ok nmX3 (by decide) hM.1 rfl 0 (by decide) kf_29 rfl rfl rfl (Nat.le_of_ble_eq_true rfl) dX3_rank_14 (fun H locs hG => ?_)
    obtain ⟨f_1, ef_1, hG⟩ := ov_name hG
    have hM := hM.u0 (cd2 := 1) ef_1
    have hO := hO.up ef_1 (by decide)
    refine lv_aload_n S.1 S.2.1 dX3_rank_17 rfl (lv_at hl 0 rfl) ?_
    refine o_get S hG i_X3 (by decide) hM.1 rfl 0 (by decide) kf_29 rfl dX3_rank_18 ?_
    refine lv_if_le (tgt := 28) S.1 S.2.1 dX3_rank_21 (by decide) (fun c_21 => ?_) (fun c_21 => ?_)
    · skip
      exact absurd c_21 (by decide)
    · skip
      refine lv_iconst (v := (nI 0)) S.1 S.2.1 dX3_rank_24 (by decide) ?_
      refine lv_goto (tgt := 34) S.1 S.2.1 dX3_rank_25 (by decide) ?_
      exact ret _ _ _ _ _ _ _ _ hG ⟨hO, Or.inr ⟨c_6, hM⟩⟩ rfl (Nat.le_of_ble_eq_true rfl) (Nat.le_of_ble_eq_true rfl) dX3_rank_34
  · skip
    obtain ⟨j, hj2, rfl, hj3⟩ := isv_ex c_6
    have hnj := hW j (by omega) hj3
    refine lv_iconst (v := (nI 0)) S.1 S.2.1 dX3_rank_9 (by decide) ?_
    refine lv_goto (tgt := 14) S.1 S.2.1 dX3_rank_10 (by decide) ?_
    refine o_put S hG i_X3 tyX3_ok nmX3 (by decide) hM.1 rfl 0 (by decide) kf_29 rfl rfl rfl (Nat.le_of_ble_eq_true rfl) dX3_rank_14 (fun H locs hG => ?_)
    obtain ⟨f_2, ef_2, hG⟩ := ov_name hG
    have hM := hM.u0 (cd2 := 0) ef_2
    have hO := hO.up ef_2 (by decide)
    refine lv_aload_n S.1 S.2.1 dX3_rank_17 rfl (lv_at hl 0 rfl) ?_
    refine o_get S hG i_X3 (by decide) hM.1 rfl 0 (by decide) kf_29 rfl dX3_rank_18 ?_
    refine lv_if_le (tgt := 28) S.1 S.2.1 dX3_rank_21 (by decide) (fun c_21 => ?_) (fun c_21 => ?_)
    · skip
      refine lv_aload_n S.1 S.2.1 dX3_rank_28 rfl (lv_at hl 0 rfl) ?_
      refine lv_iload_n S.1 S.2.1 dX3_rank_29 rfl (lv_at hl 1 rfl) ?_
      refine lv_iload_n S.1 S.2.1 dX3_rank_30 rfl (lv_at hl 2 rfl) ?_
      refine o_cVi S (rest := []) (c_X3_below l G ad s0 f_2 0 K V sz th pl dn j key hM (by omega) (by omega)) (cwV 2 S.2.2.2.2 gX3_rank_X3_below rfl rfl rfl (by decide +kernel) ⟨(Nat.le_of_ble_eq_true rfl), (Nat.le_of_ble_eq_true rfl)⟩) hG (by decide) hM.1 rfl rfl hl.1 rfl (Nat.le_of_ble_eq_true rfl) dX3_rank_31 ⟨(Nat.le_of_ble_eq_true rfl), (Nat.le_of_ble_eq_true rfl)⟩ (fun r9 f9 H locs hp hG => ?_)
      obtain ⟨rfl, rfl⟩ := hp
      have lb_3 := bel_le (sz j) (of K j) key
      exact ret _ _ _ _ _ _ _ _ hG ⟨hO, Or.inl ⟨j, hj2, rfl, hj3, rfl, hM⟩⟩ rfl (Nat.le_of_ble_eq_true rfl) (Nat.le_of_ble_eq_true rfl) dX3_rank_34
    · skip
      exact absurd c_21 (by decide)

set_option maxHeartbeats 4000000 in
set_option maxRecDepth 100000 in
theorem c_X3_get (l : Launch) (G : Gx) (ad : Nat → Nat) (s0 : Nat) (f : Nat → va_E) (cd : Nat) (K V : Nat → Int32) (sz : Nat → Nat) (th : Nat → Bool) (pl : Nat → Int) (dn : Nat → Bool) (v key : Int32) (hM : MB G ad f cd K V sz th pl dn) (hW : ∀ j, j < 21 → th j = true → sz j ≤ 600) (h00 : th 0 = true) : mI l yX3_get wsX3_get 2 46 0 0 [.ref (ad 76), .int v, .int key] G 84 ad s0 f (fun r f' => OnM f f' ∧ ((∃ j, j ≤ 12 ∧ v = nI j ∧ th j = true ∧ ((hs (sz j) (of K j) key = true ∧ r = of V j (bel (sz j) (of K j) key) ∧ MB G ad f' 0 K V sz th pl dn) ∨ (hs (sz j) (of K j) key = false ∧ MB G ad f' 2 K V sz th pl dn))) ∨ (isv th v = false ∧ MB G ad f' 1 K V sz th pl dn))) := by
  refine ov_mI (cc := cX3_get) (maxL := 3) (ty := .int) (by decide) rfl (Nat.le_of_ble_eq_true rfl) ?_
  intro p e s m below meth c av Q S ret hG ls hl
  have S : CallFix p m c cX3_get 3 s av wsX3_get RX3 := S
  have hl : lv_has ls 3 [(0, .ref (ad 76)), (1, .int v), (2, .int key)] := hl
  have i_X3 : ∀ w ∈ u_ws RX3 TX3 7, w ∈ wsX3_get := by decide +kernel
  have kf_13 := S.2.2.2.2 (.fieldLink RX3 13 "OrderedVersionsModel" "values" "[I") (by decide +kernel)
  have kf_29 := S.2.2.2.2 (.fieldLink RX3 29 "OrderedVersionsModel" "code" "I") (by decide +kernel)
  have hO : OnM f f := OnM.rf
  refine lv_aload_n S.1 S.2.1 dX3_get_0 rfl (lv_at hl 0 rfl) ?_
  refine lv_aload_n S.1 S.2.1 dX3_get_1 rfl (lv_at hl 0 rfl) ?_
  refine lv_iload_n S.1 S.2.1 dX3_get_2 rfl (lv_at hl 1 rfl) ?_
  refine o_cVi S (rest := [.ref (ad 76)]) (c_X3_isVersion l G ad s0 f cd K V sz th pl dn v hM ) (cwV 1 S.2.2.2.2 gX3_get_X3_isVersion rfl rfl rfl (by decide +kernel) ⟨(Nat.le_of_ble_eq_true rfl), (Nat.le_of_ble_eq_true rfl)⟩) hG (by decide) hM.1 rfl rfl hl.1 rfl (Nat.le_of_ble_eq_true rfl) dX3_get_3 ⟨(Nat.le_of_ble_eq_true rfl), (Nat.le_of_ble_eq_true rfl)⟩ (fun r9 f9 H locs hp hG => ?_)
  obtain ⟨rfl, rfl⟩ := hp
  refine b_if_ne S (b := (isv th v)) (tgt := 13) dX3_get_6 (by decide) (fun c_6 => ?_) (fun c_6 => ?_)
  · skip
    obtain ⟨j, hj2, rfl, hj3⟩ := isv_ex c_6
    have hnj := hW j (by omega) hj3
    refine lv_aload_n S.1 S.2.1 dX3_get_13 rfl (lv_at hl 0 rfl) ?_
    refine lv_iload_n S.1 S.2.1 dX3_get_14 rfl (lv_at hl 1 rfl) ?_
    refine lv_iload_n S.1 S.2.1 dX3_get_15 rfl (lv_at hl 2 rfl) ?_
    refine o_cVi S (rest := [.ref (ad 76)]) (c_X3_has l G ad s0 f cd K V sz th pl dn j key hM (by omega) (by omega)) (cwV 2 S.2.2.2.2 gX3_get_X3_has rfl rfl rfl (by decide +kernel) ⟨(Nat.le_of_ble_eq_true rfl), (Nat.le_of_ble_eq_true rfl)⟩) hG (by decide) hM.1 rfl rfl hl.1 rfl (Nat.le_of_ble_eq_true rfl) dX3_get_16 ⟨(Nat.le_of_ble_eq_true rfl), (Nat.le_of_ble_eq_true rfl)⟩ (fun r9 f9 H locs hp hG => ?_)
    obtain ⟨rfl, rfl⟩ := hp
    refine b_if_eq S (b := (hs (sz j) (of K j) key)) (tgt := 26) dX3_get_19 (by decide) (fun c_19 => ?_) (fun c_19 => ?_)
    · skip
      refine lv_iconst (v := (nI 2)) S.1 S.2.1 dX3_get_26 (by decide) ?_
      refine o_put S hG i_X3 tyX3_ok nmX3 (by decide) hM.1 rfl 0 (by decide) kf_29 rfl rfl rfl (Nat.le_of_ble_eq_true rfl) dX3_get_27 (fun H locs hG => ?_)
      obtain ⟨f_1, ef_1, hG⟩ := ov_name hG
      have hM := hM.u0 (cd2 := 2) ef_1
      have hO := hO.up ef_1 (by decide)
      refine lv_aload_n S.1 S.2.1 dX3_get_30 rfl (lv_at hl 0 rfl) ?_
      refine o_get S hG i_X3 (by decide) hM.1 rfl 0 (by decide) kf_29 rfl dX3_get_31 ?_
      refine lv_if_le (tgt := 41) S.1 S.2.1 dX3_get_34 (by decide) (fun c_34 => ?_) (fun c_34 => ?_)
      · skip
        exact absurd c_34 (by decide)
      · skip
        refine lv_iconst (v := (nI 0)) S.1 S.2.1 dX3_get_37 (by decide) ?_
        refine lv_goto (tgt := 58) S.1 S.2.1 dX3_get_38 (by decide) ?_
        exact ret _ _ _ _ _ _ _ _ hG ⟨hO, Or.inl ⟨j, hj2, rfl, hj3, Or.inr ⟨c_19, hM⟩⟩⟩ rfl (Nat.le_of_ble_eq_true rfl) (Nat.le_of_ble_eq_true rfl) dX3_get_58
    · skip
      refine lv_iconst (v := (nI 0)) S.1 S.2.1 dX3_get_22 (by decide) ?_
      refine lv_goto (tgt := 27) S.1 S.2.1 dX3_get_23 (by decide) ?_
      refine o_put S hG i_X3 tyX3_ok nmX3 (by decide) hM.1 rfl 0 (by decide) kf_29 rfl rfl rfl (Nat.le_of_ble_eq_true rfl) dX3_get_27 (fun H locs hG => ?_)
      obtain ⟨f_2, ef_2, hG⟩ := ov_name hG
      have hM := hM.u0 (cd2 := 0) ef_2
      have hO := hO.up ef_2 (by decide)
      refine lv_aload_n S.1 S.2.1 dX3_get_30 rfl (lv_at hl 0 rfl) ?_
      refine o_get S hG i_X3 (by decide) hM.1 rfl 0 (by decide) kf_29 rfl dX3_get_31 ?_
      refine lv_if_le (tgt := 41) S.1 S.2.1 dX3_get_34 (by decide) (fun c_34 => ?_) (fun c_34 => ?_)
      · skip
        refine lv_aload_n S.1 S.2.1 dX3_get_41 rfl (lv_at hl 0 rfl) ?_
        refine o_get S hG i_X3 (by decide) hM.1 rfl 2 (by decide) kf_13 rfl dX3_get_42 ?_
        refine lv_sipush (v := (nI 600)) S.1 S.2.1 dX3_get_45 (by decide) ?_
        refine lv_iload_n S.1 S.2.1 dX3_get_48 rfl (lv_at hl 1 rfl) ?_
        refine o_mul S (a := 600) (b := j) dX3_get_49 ?_
        refine lv_aload_n S.1 S.2.1 dX3_get_50 rfl (lv_at hl 0 rfl) ?_
        refine lv_iload_n S.1 S.2.1 dX3_get_51 rfl (lv_at hl 1 rfl) ?_
        refine lv_iload_n S.1 S.2.1 dX3_get_52 rfl (lv_at hl 2 rfl) ?_
        refine o_cVi S (rest := [.int (nI (600 * j)), .ref (ad 78)]) (c_X3_below l G ad s0 f_2 0 K V sz th pl dn j key hM (by omega) (by omega)) (cwV 2 S.2.2.2.2 gX3_get_X3_below rfl rfl rfl (by decide +kernel) ⟨(Nat.le_of_ble_eq_true rfl), (Nat.le_of_ble_eq_true rfl)⟩) hG (by decide) hM.1 rfl rfl hl.1 rfl (Nat.le_of_ble_eq_true rfl) dX3_get_53 ⟨(Nat.le_of_ble_eq_true rfl), (Nat.le_of_ble_eq_true rfl)⟩ (fun r9 f9 H locs hp hG => ?_)
        obtain ⟨rfl, rfl⟩ := hp
        have lb_3 := bel_le (sz j) (of K j) key
        refine o_add S (a := 600 * j) (b := bel (sz j) (of K j) key) dX3_get_56 ?_
        refine o_iald S hG (j := (600 * j) + (bel (sz j) (of K j) key)) (by decide) hM.2.2.1 (by omega) dX3_get_57 (kk := ?_)
        exact ret _ _ _ _ _ _ _ _ hG ⟨hO, Or.inl ⟨j, hj2, rfl, hj3, Or.inl ⟨c_19, rfl, hM⟩⟩⟩ rfl (Nat.le_of_ble_eq_true rfl) (Nat.le_of_ble_eq_true rfl) dX3_get_58
      · skip
        exact absurd c_34 (by decide)
  · skip
    refine lv_iconst (v := (nI 1)) S.1 S.2.1 dX3_get_9 (by decide) ?_
    refine lv_goto (tgt := 27) S.1 S.2.1 dX3_get_10 (by decide) ?_
    refine o_put S hG i_X3 tyX3_ok nmX3 (by decide) hM.1 rfl 0 (by decide) kf_29 rfl rfl rfl (Nat.le_of_ble_eq_true rfl) dX3_get_27 (fun H locs hG => ?_)
    obtain ⟨f_4, ef_4, hG⟩ := ov_name hG
    have hM := hM.u0 (cd2 := 1) ef_4
    have hO := hO.up ef_4 (by decide)
    refine lv_aload_n S.1 S.2.1 dX3_get_30 rfl (lv_at hl 0 rfl) ?_
    refine o_get S hG i_X3 (by decide) hM.1 rfl 0 (by decide) kf_29 rfl dX3_get_31 ?_
    refine lv_if_le (tgt := 41) S.1 S.2.1 dX3_get_34 (by decide) (fun c_34 => ?_) (fun c_34 => ?_)
    · skip
      exact absurd c_34 (by decide)
    · skip
      refine lv_iconst (v := (nI 0)) S.1 S.2.1 dX3_get_37 (by decide) ?_
      refine lv_goto (tgt := 58) S.1 S.2.1 dX3_get_38 (by decide) ?_
      exact ret _ _ _ _ _ _ _ _ hG ⟨hO, Or.inr ⟨c_6, hM⟩⟩ rfl (Nat.le_of_ble_eq_true rfl) (Nat.le_of_ble_eq_true rfl) dX3_get_58

theorem v_lt {v : Int32} {m : Nat} (hm : m < 2 ^ 31) (h1 : ¬ v < 0) (h2 : v < nI m) : ∃ j, j < m ∧ v = nI j := by
  rw [i32_lt, Int32.toInt_zero] at h1
  rw [i32_lt, nI_toInt hm] at h2
  exact ⟨v.toInt.toNat, by omega, nI_of_toInt (by omega) (by omega)⟩

set_option maxHeartbeats 4000000 in
set_option maxRecDepth 100000 in
theorem c_X3_select (l : Launch) (G : Gx) (ad : Nat → Nat) (s0 : Nat) (f : Nat → va_E) (cd : Nat) (K V : Nat → Int32) (sz : Nat → Nat) (th : Nat → Bool) (pl : Nat → Int) (dn : Nat → Bool) (v rk : Int32) (hM : MB G ad f cd K V sz th pl dn) (hW : ∀ j, j < 21 → th j = true → sz j ≤ 600) (h00 : th 0 = true) : mI l yX3_select wsX3_select 1 21 0 0 [.ref (ad 76), .int v, .int rk] G 84 ad s0 f (fun r f' => OnM f f' ∧ ((∃ j, j ≤ 12 ∧ v = nI j ∧ th j = true ∧ ((∃ i, i < sz j ∧ rk = nI i ∧ r = of K j i ∧ MB G ad f' 0 K V sz th pl dn) ∨ (wi (sz j) rk = false ∧ MB G ad f' 2 K V sz th pl dn))) ∨ (isv th v = false ∧ MB G ad f' 1 K V sz th pl dn))) := by
  refine ov_mI (cc := cX3_select) (maxL := 3) (ty := .int) (by decide) rfl (Nat.le_of_ble_eq_true rfl) ?_
  intro p e s m below meth c av Q S ret hG ls hl
  have S : CallFix p m c cX3_select 3 s av wsX3_select RX3 := S
  have hl : lv_has ls 3 [(0, .ref (ad 76)), (1, .int v), (2, .int rk)] := hl
  have i_X3 : ∀ w ∈ u_ws RX3 TX3 7, w ∈ wsX3_select := by decide +kernel
  have kf_7 := S.2.2.2.2 (.fieldLink RX3 7 "OrderedVersionsModel" "keys" "[I") (by decide +kernel)
  have kf_16 := S.2.2.2.2 (.fieldLink RX3 16 "OrderedVersionsModel" "sizes" "[I") (by decide +kernel)
  have kf_29 := S.2.2.2.2 (.fieldLink RX3 29 "OrderedVersionsModel" "code" "I") (by decide +kernel)
  have hO : OnM f f := OnM.rf
  refine lv_aload_n S.1 S.2.1 dX3_select_0 rfl (lv_at hl 0 rfl) ?_
  refine lv_aload_n S.1 S.2.1 dX3_select_1 rfl (lv_at hl 0 rfl) ?_
  refine lv_iload_n S.1 S.2.1 dX3_select_2 rfl (lv_at hl 1 rfl) ?_
  refine o_cVi S (rest := [.ref (ad 76)]) (c_X3_isVersion l G ad s0 f cd K V sz th pl dn v hM ) (cwV 1 S.2.2.2.2 gX3_select_X3_isVersion rfl rfl rfl (by decide +kernel) ⟨(Nat.le_of_ble_eq_true rfl), (Nat.le_of_ble_eq_true rfl)⟩) hG (by decide) hM.1 rfl rfl hl.1 rfl (Nat.le_of_ble_eq_true rfl) dX3_select_3 ⟨(Nat.le_of_ble_eq_true rfl), (Nat.le_of_ble_eq_true rfl)⟩ (fun r9 f9 H locs hp hG => ?_)
  obtain ⟨rfl, rfl⟩ := hp
  refine b_if_ne S (b := (isv th v)) (tgt := 13) dX3_select_6 (by decide) (fun c_6 => ?_) (fun c_6 => ?_)
  · skip
    obtain ⟨j, hj2, rfl, hj3⟩ := isv_ex c_6
    have hnj := hW j (by omega) hj3
    refine lv_iload_n S.1 S.2.1 dX3_select_13 rfl (lv_at hl 2 rfl) ?_
    refine lv_if_lt (tgt := 27) S.1 S.2.1 dX3_select_14 (by decide) (fun c_14 => ?_) (fun c_14 => ?_)
    · skip
      refine lv_iconst (v := (nI 2)) S.1 S.2.1 dX3_select_27 (by decide) ?_
      refine lv_goto (tgt := 32) S.1 S.2.1 dX3_select_28 (by decide) ?_
      refine o_put S hG i_X3 tyX3_ok nmX3 (by decide) hM.1 rfl 0 (by decide) kf_29 rfl rfl rfl (Nat.le_of_ble_eq_true rfl) dX3_select_32 (fun H locs hG => ?_)
      obtain ⟨f_1, ef_1, hG⟩ := ov_name hG
      have hM := hM.u0 (cd2 := 2) ef_1
      have hO := hO.up ef_1 (by decide)
      refine lv_aload_n S.1 S.2.1 dX3_select_35 rfl (lv_at hl 0 rfl) ?_
      refine o_get S hG i_X3 (by decide) hM.1 rfl 0 (by decide) kf_29 rfl dX3_select_36 ?_
      refine lv_if_le (tgt := 46) S.1 S.2.1 dX3_select_39 (by decide) (fun c_39 => ?_) (fun c_39 => ?_)
      · skip
        exact absurd c_39 (by decide)
      · skip
        refine lv_iconst (v := (nI 0)) S.1 S.2.1 dX3_select_42 (by decide) ?_
        refine lv_goto (tgt := 58) S.1 S.2.1 dX3_select_43 (by decide) ?_
        exact ret _ _ _ _ _ _ _ _ hG ⟨hO, Or.inl ⟨j, hj2, rfl, hj3, Or.inr ⟨wi_f1 c_14, hM⟩⟩⟩ rfl (Nat.le_of_ble_eq_true rfl) (Nat.le_of_ble_eq_true rfl) dX3_select_58
    · skip
      refine lv_iload_n S.1 S.2.1 dX3_select_17 rfl (lv_at hl 2 rfl) ?_
      refine lv_aload_n S.1 S.2.1 dX3_select_18 rfl (lv_at hl 0 rfl) ?_
      refine o_get S hG i_X3 (by decide) hM.1 rfl 3 (by decide) kf_16 rfl dX3_select_19 ?_
      refine lv_iload_n S.1 S.2.1 dX3_select_22 rfl (lv_at hl 1 rfl) ?_
      refine o_iald S hG (j := j) (by decide) hM.2.2.2.1 (by omega) dX3_select_23 (kk := ?_)
      refine lv_icmp_lt (tgt := 31) S.1 S.2.1 dX3_select_24 (by decide) (fun c_24 => ?_) (fun c_24 => ?_)
      · skip
        obtain ⟨i, hi, rfl⟩ := v_lt (by omega) c_14 c_24
        refine lv_iconst (v := (nI 0)) S.1 S.2.1 dX3_select_31 (by decide) ?_
        refine o_put S hG i_X3 tyX3_ok nmX3 (by decide) hM.1 rfl 0 (by decide) kf_29 rfl rfl rfl (Nat.le_of_ble_eq_true rfl) dX3_select_32 (fun H locs hG => ?_)
        obtain ⟨f_2, ef_2, hG⟩ := ov_name hG
        have hM := hM.u0 (cd2 := 0) ef_2
        have hO := hO.up ef_2 (by decide)
        refine lv_aload_n S.1 S.2.1 dX3_select_35 rfl (lv_at hl 0 rfl) ?_
        refine o_get S hG i_X3 (by decide) hM.1 rfl 0 (by decide) kf_29 rfl dX3_select_36 ?_
        refine lv_if_le (tgt := 46) S.1 S.2.1 dX3_select_39 (by decide) (fun c_39 => ?_) (fun c_39 => ?_)
        · skip
          refine lv_aload_n S.1 S.2.1 dX3_select_46 rfl (lv_at hl 0 rfl) ?_
          refine o_get S hG i_X3 (by decide) hM.1 rfl 1 (by decide) kf_7 rfl dX3_select_47 ?_
          refine lv_sipush (v := (nI 600)) S.1 S.2.1 dX3_select_50 (by decide) ?_
          refine lv_iload_n S.1 S.2.1 dX3_select_53 rfl (lv_at hl 1 rfl) ?_
          refine o_mul S (a := 600) (b := j) dX3_select_54 ?_
          refine lv_iload_n S.1 S.2.1 dX3_select_55 rfl (lv_at hl 2 rfl) ?_
          refine o_add S (a := 600 * j) (b := i) dX3_select_56 ?_
          refine o_iald S hG (j := (600 * j) + i) (by decide) hM.2.1 (by omega) dX3_select_57 (kk := ?_)
          exact ret _ _ _ _ _ _ _ _ hG ⟨hO, Or.inl ⟨j, hj2, rfl, hj3, Or.inl ⟨i, hi, rfl, rfl, hM⟩⟩⟩ rfl (Nat.le_of_ble_eq_true rfl) (Nat.le_of_ble_eq_true rfl) dX3_select_58
        · skip
          exact absurd c_39 (by decide)
      · skip
        refine lv_iconst (v := (nI 2)) S.1 S.2.1 dX3_select_27 (by decide) ?_
        refine lv_goto (tgt := 32) S.1 S.2.1 dX3_select_28 (by decide) ?_
        refine o_put S hG i_X3 tyX3_ok nmX3 (by decide) hM.1 rfl 0 (by decide) kf_29 rfl rfl rfl (Nat.le_of_ble_eq_true rfl) dX3_select_32 (fun H locs hG => ?_)
        obtain ⟨f_3, ef_3, hG⟩ := ov_name hG
        have hM := hM.u0 (cd2 := 2) ef_3
        have hO := hO.up ef_3 (by decide)
        refine lv_aload_n S.1 S.2.1 dX3_select_35 rfl (lv_at hl 0 rfl) ?_
        refine o_get S hG i_X3 (by decide) hM.1 rfl 0 (by decide) kf_29 rfl dX3_select_36 ?_
        refine lv_if_le (tgt := 46) S.1 S.2.1 dX3_select_39 (by decide) (fun c_39 => ?_) (fun c_39 => ?_)
        · skip
          exact absurd c_39 (by decide)
        · skip
          refine lv_iconst (v := (nI 0)) S.1 S.2.1 dX3_select_42 (by decide) ?_
          refine lv_goto (tgt := 58) S.1 S.2.1 dX3_select_43 (by decide) ?_
          exact ret _ _ _ _ _ _ _ _ hG ⟨hO, Or.inl ⟨j, hj2, rfl, hj3, Or.inr ⟨wi_f2 hnj (i32_of_nlt c_24), hM⟩⟩⟩ rfl (Nat.le_of_ble_eq_true rfl) (Nat.le_of_ble_eq_true rfl) dX3_select_58
  · skip
    refine lv_iconst (v := (nI 1)) S.1 S.2.1 dX3_select_9 (by decide) ?_
    refine lv_goto (tgt := 32) S.1 S.2.1 dX3_select_10 (by decide) ?_
    refine o_put S hG i_X3 tyX3_ok nmX3 (by decide) hM.1 rfl 0 (by decide) kf_29 rfl rfl rfl (Nat.le_of_ble_eq_true rfl) dX3_select_32 (fun H locs hG => ?_)
    obtain ⟨f_4, ef_4, hG⟩ := ov_name hG
    have hM := hM.u0 (cd2 := 1) ef_4
    have hO := hO.up ef_4 (by decide)
    refine lv_aload_n S.1 S.2.1 dX3_select_35 rfl (lv_at hl 0 rfl) ?_
    refine o_get S hG i_X3 (by decide) hM.1 rfl 0 (by decide) kf_29 rfl dX3_select_36 ?_
    refine lv_if_le (tgt := 46) S.1 S.2.1 dX3_select_39 (by decide) (fun c_39 => ?_) (fun c_39 => ?_)
    · skip
      exact absurd c_39 (by decide)
    · skip
      refine lv_iconst (v := (nI 0)) S.1 S.2.1 dX3_select_42 (by decide) ?_
      refine lv_goto (tgt := 58) S.1 S.2.1 dX3_select_43 (by decide) ?_
      exact ret _ _ _ _ _ _ _ _ hG ⟨hO, Or.inr ⟨c_6, hM⟩⟩ rfl (Nat.le_of_ble_eq_true rfl) (Nat.le_of_ble_eq_true rfl) dX3_select_58

set_option maxHeartbeats 4000000 in
set_option maxRecDepth 100000 in
theorem c_X3_astray (l : Launch) (G : Gx) (ad : Nat → Nat) (s0 : Nat) (f : Nat → va_E) (cd : Nat) (K V : Nat → Int32) (sz : Nat → Nat) (th : Nat → Bool) (pl : Nat → Int) (dn : Nat → Bool)  (hM : MB G ad f cd K V sz th pl dn)  : mI l yX3_astray wsX3_astray 0 0 0 0 [.ref (ad 76)] G 84 ad s0 f (fun r f' => OnM f f' ∧ r = nI 0 ∧ MB G ad f' 0 K V sz th pl dn) := by
  refine ov_mI (cc := cX3_astray) (maxL := 1) (ty := .int) (by decide) rfl (Nat.le_of_ble_eq_true rfl) ?_
  intro p e s m below meth c av Q S ret hG ls hl
  have S : CallFix p m c cX3_astray 1 s av wsX3_astray RX3 := S
  have hl : lv_has ls 1 [(0, .ref (ad 76))] := hl
  have i_X3 : ∀ w ∈ u_ws RX3 TX3 7, w ∈ wsX3_astray := by decide +kernel
  have kf_29 := S.2.2.2.2 (.fieldLink RX3 29 "OrderedVersionsModel" "code" "I") (by decide +kernel)
  have hO : OnM f f := OnM.rf
  refine lv_aload_n S.1 S.2.1 dX3_astray_0 rfl (lv_at hl 0 rfl) ?_
  refine lv_iconst (v := (nI 0)) S.1 S.2.1 dX3_astray_1 (by decide) ?_
  refine o_put S hG i_X3 tyX3_ok nmX3 (by decide) hM.1 rfl 0 (by decide) kf_29 rfl rfl rfl (Nat.le_of_ble_eq_true rfl) dX3_astray_2 (fun H locs hG => ?_)
  obtain ⟨f_1, ef_1, hG⟩ := ov_name hG
  have hM := hM.u0 (cd2 := 0) ef_1
  have hO := hO.up ef_1 (by decide)
  refine lv_iconst (v := (nI 0)) S.1 S.2.1 dX3_astray_5 (by decide) ?_
  exact ret _ _ _ _ _ _ _ _ hG ⟨hO, rfl, hM⟩ rfl (Nat.le_of_ble_eq_true rfl) (Nat.le_of_ble_eq_true rfl) dX3_astray_6

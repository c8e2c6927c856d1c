set_option maxHeartbeats 4000000 in
set_option maxRecDepth 100000 in
theorem c_X3_isAtEnd (l : Launch) (G : Gx) (ad : Nat → Nat) (s0 : Nat) (f : Nat → va_E) (cd : Nat) (K V : Nat → Int32) (sz : Nat → Nat) (th : Nat → Bool) (pl : Nat → Int) (dn : Nat → Bool) (q : Nat) (hM : MB G ad f cd K V sz th pl dn) (hq : q < 8) (hn : sz (13 + q) ≤ 600) (hp9 : -1 ≤ pl q ∧ pl q ≤ sz (13 + q)) : mI l yX3_isAtEnd wsX3_isAtEnd 0 0 0 0 [.ref (ad 76), .int (nI q)] G 84 ad s0 f (fun r f' => f = f' ∧ r = bI (ate (pl q) (sz (13 + q)))) := by
  refine ov_mI (cc := cX3_isAtEnd) (maxL := 2) (ty := .boolean) (by decide) rfl (Nat.le_of_ble_eq_true rfl) ?_
  intro p e s m below meth c av Q S ret hG ls hl
  have S : CallFix p m c cX3_isAtEnd 2 s av wsX3_isAtEnd RX3 := S
  have hl : lv_has ls 2 [(0, .ref (ad 76)), (1, .int (nI q))] := hl
  have i_X3 : ∀ w ∈ u_ws RX3 TX3 7, w ∈ wsX3_isAtEnd := by decide +kernel
  have kf_16 := S.2.2.2.2 (.fieldLink RX3 16 "OrderedVersionsModel" "sizes" "[I") (by decide +kernel)
  have kf_23 := S.2.2.2.2 (.fieldLink RX3 23 "OrderedVersionsModel" "places" "[I") (by decide +kernel)
  refine lv_aload_n S.1 S.2.1 dX3_isAtEnd_0 rfl (lv_at hl 0 rfl) ?_
  refine o_get S hG i_X3 (by decide) hM.1 rfl 5 (by decide) kf_23 rfl dX3_isAtEnd_1 ?_
  refine lv_iload_n S.1 S.2.1 dX3_isAtEnd_4 rfl (lv_at hl 1 rfl) ?_
  refine o_iald S hG (j := q) (by decide) hM.2.2.2.2.2.1 (by omega) dX3_isAtEnd_5 (kk := ?_)
  refine lv_if_lt (tgt := 27) S.1 S.2.1 dX3_isAtEnd_6 (by decide) (fun c_6 => ?_) (fun c_6 => ?_)
  · skip
    refine lv_iconst (v := (nI 1)) S.1 S.2.1 dX3_isAtEnd_27 (by decide) ?_
    refine lv_goto (tgt := 32) S.1 S.2.1 dX3_isAtEnd_28 (by decide) ?_
    exact ret _ _ _ _ _ _ _ _ hG ⟨rfl, bI_t (decide_eq_true (Or.inl ((zI_lt0 hp9.1 (by omega)).mp c_6)))⟩ rfl (Nat.le_of_ble_eq_true rfl) (Nat.le_of_ble_eq_true rfl) dX3_isAtEnd_32
  · skip
    refine lv_aload_n S.1 S.2.1 dX3_isAtEnd_9 rfl (lv_at hl 0 rfl) ?_
    refine o_get S hG i_X3 (by decide) hM.1 rfl 5 (by decide) kf_23 rfl dX3_isAtEnd_10 ?_
    refine lv_iload_n S.1 S.2.1 dX3_isAtEnd_13 rfl (lv_at hl 1 rfl) ?_
    refine o_iald S hG (j := q) (by decide) hM.2.2.2.2.2.1 (by omega) dX3_isAtEnd_14 (kk := ?_)
    refine lv_aload_n S.1 S.2.1 dX3_isAtEnd_15 rfl (lv_at hl 0 rfl) ?_
    refine o_get S hG i_X3 (by decide) hM.1 rfl 3 (by decide) kf_16 rfl dX3_isAtEnd_16 ?_
    refine lv_bipush (v := (nI 13)) S.1 S.2.1 dX3_isAtEnd_19 (by decide) ?_
    refine lv_iload_n S.1 S.2.1 dX3_isAtEnd_21 rfl (lv_at hl 1 rfl) ?_
    refine o_add S (a := 13) (b := q) dX3_isAtEnd_22 ?_
    refine o_iald S hG (j := 13 + q) (by decide) hM.2.2.2.1 (by omega) dX3_isAtEnd_23 (kk := ?_)
    refine lv_icmp_lt (tgt := 31) S.1 S.2.1 dX3_isAtEnd_24 (by decide) (fun c_24 => ?_) (fun c_24 => ?_)
    · skip
      refine lv_iconst (v := (nI 0)) S.1 S.2.1 dX3_isAtEnd_31 (by decide) ?_
      exact ret _ _ _ _ _ _ _ _ hG ⟨rfl, bI_f (decide_eq_false (fun z => by have a1 := (zI_ltn hp9.1 (by omega) hn).mp c_24; have a2 : ¬ pl q < 0 := fun b => c_6 ((zI_lt0 hp9.1 (by omega)).mpr b); omega))⟩ rfl (Nat.le_of_ble_eq_true rfl) (Nat.le_of_ble_eq_true rfl) dX3_isAtEnd_32
    · skip
      refine lv_iconst (v := (nI 1)) S.1 S.2.1 dX3_isAtEnd_27 (by decide) ?_
      refine lv_goto (tgt := 32) S.1 S.2.1 dX3_isAtEnd_28 (by decide) ?_
      exact ret _ _ _ _ _ _ _ _ hG ⟨rfl, bI_t (decide_eq_true (Or.inr (by have a1 : ¬ pl q < sz (13 + q) := fun b => c_24 ((zI_ltn hp9.1 (by omega) hn).mpr b); omega)))⟩ rfl (Nat.le_of_ble_eq_true rfl) (Nat.le_of_ble_eq_true rfl) dX3_isAtEnd_32

set_option maxHeartbeats 4000000 in
set_option maxRecDepth 100000 in
theorem c_X3_goOn (l : Launch) (G : Gx) (ad : Nat → Nat) (s0 : Nat) (f : Nat → va_E) (cd : Nat) (K V : Nat → Int32) (sz : Nat → Nat) (th : Nat → Bool) (pl : Nat → Int) (dn : Nat → Bool) (q : Nat) (hM : MB G ad f cd K V sz th pl dn) (hq : q < 8) : mV l yX3_goOn wsX3_goOn 0 0 0 0 [.ref (ad 76), .int (nI q)] G 84 ad s0 f (fun f' => OnM f f' ∧ MB G ad f' cd K V sz th (va_up pl q (gon (dn q) (pl q))) dn) := by
  refine ov_mV (cc := cX3_goOn) (maxL := 2) (by decide) rfl (Nat.le_of_ble_eq_true rfl) ?_
  intro p e s m below meth c av Q S ret hG ls hl
  have S : CallFix p m c cX3_goOn 2 s av wsX3_goOn RX3 := S
  have hl : lv_has ls 2 [(0, .ref (ad 76)), (1, .int (nI q))] := hl
  have i_X3 : ∀ w ∈ u_ws RX3 TX3 7, w ∈ wsX3_goOn := by decide +kernel
  have kf_23 := S.2.2.2.2 (.fieldLink RX3 23 "OrderedVersionsModel" "places" "[I") (by decide +kernel)
  have kf_26 := S.2.2.2.2 (.fieldLink RX3 26 "OrderedVersionsModel" "downs" "[Z") (by decide +kernel)
  have hO : OnM f f := OnM.rf
  refine lv_aload_n S.1 S.2.1 dX3_goOn_0 rfl (lv_at hl 0 rfl) ?_
  refine o_get S hG i_X3 (by decide) hM.1 rfl 5 (by decide) kf_23 rfl dX3_goOn_1 ?_
  refine lv_iload_n S.1 S.2.1 dX3_goOn_4 rfl (lv_at hl 1 rfl) ?_
  refine lv_dup2_11 S.1 S.2.1 dX3_goOn_5 rfl rfl ?_
  refine o_iald S hG (j := q) (by decide) hM.2.2.2.2.2.1 (by omega) dX3_goOn_6 (kk := ?_)
  refine lv_aload_n S.1 S.2.1 dX3_goOn_7 rfl (lv_at hl 0 rfl) ?_
  refine o_get S hG i_X3 (by decide) hM.1 rfl 6 (by decide) kf_26 rfl dX3_goOn_8 ?_
  refine lv_iload_n S.1 S.2.1 dX3_goOn_11 rfl (lv_at hl 1 rfl) ?_
  refine o_zald S hG (j := q) (by decide) hM.2.2.2.2.2.2 (by omega) dX3_goOn_12 (kk := ?_)
  refine b_if_eq S (b := dn q) (tgt := 20) dX3_goOn_13 (by decide) (fun c_13 => ?_) (fun c_13 => ?_)
  · skip
    refine lv_iconst (v := (nI 1)) S.1 S.2.1 dX3_goOn_20 (by decide) ?_
    refine lv_iadd S.1 S.2.1 dX3_goOn_21 ?_
    refine o_top (zI_p1 _) ?_
    refine o_iast S hG (j := q) (by decide) hM.2.2.2.2.2.1 (by omega) dX3_goOn_22 (kk := fun H locs hG => ?_)
    obtain ⟨f_1, ef_1, hG⟩ := ov_name hG
    have hM := hM.uP (j := q) (z := (pl q + 1)) ef_1
    have hO := hO.up ef_1 (by decide)
    exact ret _ _ _ _ _ _ _ hG ⟨hO, by rw [gon, c_13]; exact hM⟩ (Nat.le_of_ble_eq_true rfl) (Nat.le_of_ble_eq_true rfl) dX3_goOn_23
  · skip
    refine lv_iconst (v := (-1)) S.1 S.2.1 dX3_goOn_16 (by decide) ?_
    refine lv_goto (tgt := 21) S.1 S.2.1 dX3_goOn_17 (by decide) ?_
    refine lv_iadd S.1 S.2.1 dX3_goOn_21 ?_
    refine o_top (zI_m1 _) ?_
    refine o_iast S hG (j := q) (by decide) hM.2.2.2.2.2.1 (by omega) dX3_goOn_22 (kk := fun H locs hG => ?_)
    obtain ⟨f_2, ef_2, hG⟩ := ov_name hG
    have hM := hM.uP (j := q) (z := (pl q - 1)) ef_2
    have hO := hO.up ef_2 (by decide)
    exact ret _ _ _ _ _ _ _ hG ⟨hO, by rw [gon, c_13]; exact hM⟩ (Nat.le_of_ble_eq_true rfl) (Nat.le_of_ble_eq_true rfl) dX3_goOn_23

set_option maxHeartbeats 4000000 in
set_option maxRecDepth 100000 in
theorem c_X3_next (l : Launch) (G : Gx) (ad : Nat → Nat) (s0 : Nat) (f : Nat → va_E) (cd : Nat) (K V : Nat → Int32) (sz : Nat → Nat) (th : Nat → Bool) (pl : Nat → Int) (dn : Nat → Bool) (v : Int32) (hM : MB G ad f cd K V sz th pl dn) (hW : ∀ j, j < 21 → th j = true → sz j ≤ 600) (h00 : th 0 = true) (hC : ∀ q, q < 8 → th (13 + q) = true → WCp (dn q) (pl q) (sz (13 + q))) : mI l yX3_next wsX3_next 1 21 0 0 [.ref (ad 76), .int v] G 84 ad s0 f (fun r f' => OnM f f' ∧ ((∃ q, q < 8 ∧ v = nI q ∧ th (13 + q) = true ∧ ((ate (pl q) (sz (13 + q)) = false ∧ r = of K (13 + q) (pl q).toNat ∧ MB G ad f' 0 K V sz th (va_up pl q (gon (dn q) (pl q))) dn) ∨ (ate (pl q) (sz (13 + q)) = true ∧ MB G ad f' 2 K V sz th pl dn))) ∨ (isc th v = false ∧ MB G ad f' 1 K V sz th pl dn))) := by
  refine ov_mI (cc := cX3_next) (maxL := 3) (ty := .int) (by decide) rfl (Nat.le_of_ble_eq_true rfl) ?_
  intro p e s m below meth c av Q S ret hG ls hl
  have S : CallFix p m c cX3_next 3 s av wsX3_next RX3 := S
  have hl : lv_has ls 3 [(0, .ref (ad 76)), (1, .int v)] := hl
  have i_X3 : ∀ w ∈ u_ws RX3 TX3 7, w ∈ wsX3_next := by decide +kernel
  have kf_7 := S.2.2.2.2 (.fieldLink RX3 7 "OrderedVersionsModel" "keys" "[I") (by decide +kernel)
  have kf_23 := S.2.2.2.2 (.fieldLink RX3 23 "OrderedVersionsModel" "places" "[I") (by decide +kernel)
  have kf_29 := S.2.2.2.2 (.fieldLink RX3 29 "OrderedVersionsModel" "code" "I") (by decide +kernel)
  have hO : OnM f f := OnM.rf
  refine lv_aload_n S.1 S.2.1 dX3_next_0 rfl (lv_at hl 0 rfl) ?_
  refine lv_aload_n S.1 S.2.1 dX3_next_1 rfl (lv_at hl 0 rfl) ?_
  refine lv_iload_n S.1 S.2.1 dX3_next_2 rfl (lv_at hl 1 rfl) ?_
  refine o_cVi S (rest := [.ref (ad 76)]) (c_X3_isCursor l G ad s0 f cd K V sz th pl dn v hM ) (cwV 1 S.2.2.2.2 gX3_next_X3_isCursor rfl rfl rfl (by decide +kernel) ⟨(Nat.le_of_ble_eq_true rfl), (Nat.le_of_ble_eq_true rfl)⟩) hG (by decide) hM.1 rfl rfl hl.1 rfl (Nat.le_of_ble_eq_true rfl) dX3_next_3 ⟨(Nat.le_of_ble_eq_true rfl), (Nat.le_of_ble_eq_true rfl)⟩ (fun r9 f9 H locs hp hG => ?_)
  obtain ⟨rfl, rfl⟩ := hp
  refine b_if_ne S (b := (isc th v)) (tgt := 13) dX3_next_6 (by decide) (fun c_6 => ?_) (fun c_6 => ?_)
  · skip
    obtain ⟨q, hq1, rfl, hq2⟩ := isc_ex c_6
    have hnq := hW (13 + q) (by omega) hq2
    have hwc := hC q hq1 hq2
    refine lv_aload_n S.1 S.2.1 dX3_next_13 rfl (lv_at hl 0 rfl) ?_
    refine lv_iload_n S.1 S.2.1 dX3_next_14 rfl (lv_at hl 1 rfl) ?_
    refine o_cVi S (rest := [.ref (ad 76)]) (c_X3_isAtEnd l G ad s0 f cd K V sz th pl dn q hM hq1 hnq (WC_b hwc)) (cwV 1 S.2.2.2.2 gX3_next_X3_isAtEnd rfl rfl rfl (by decide +kernel) ⟨(Nat.le_of_ble_eq_true rfl), (Nat.le_of_ble_eq_true rfl)⟩) hG (by decide) hM.1 rfl rfl hl.1 rfl (Nat.le_of_ble_eq_true rfl) dX3_next_15 ⟨(Nat.le_of_ble_eq_true rfl), (Nat.le_of_ble_eq_true rfl)⟩ (fun r9 f9 H locs hp hG => ?_)
    obtain ⟨rfl, rfl⟩ := hp
    refine b_if_eq S (b := (ate (pl q) (sz (13 + q)))) (tgt := 25) dX3_next_18 (by decide) (fun c_18 => ?_) (fun c_18 => ?_)
    · skip
      have hat := ate_f c_18
      refine lv_iconst (v := (nI 0)) S.1 S.2.1 dX3_next_25 (by decide) ?_
      refine o_put S hG i_X3 tyX3_ok nmX3 (by decide) hM.1 rfl 0 (by decide) kf_29 rfl rfl rfl (Nat.le_of_ble_eq_true rfl) dX3_next_26 (fun H locs hG => ?_)
      obtain ⟨f_1, ef_1, hG⟩ := ov_name hG
      have hM := hM.u0 (cd2 := 0) ef_1
      have hO := hO.up ef_1 (by decide)
      refine lv_aload_n S.1 S.2.1 dX3_next_29 rfl (lv_at hl 0 rfl) ?_
      refine o_get S hG i_X3 (by decide) hM.1 rfl 0 (by decide) kf_29 rfl dX3_next_30 ?_
      refine lv_if_le (tgt := 38) S.1 S.2.1 dX3_next_33 (by decide) (fun c_33 => ?_) (fun c_33 => ?_)
      · skip
        refine lv_aload_n S.1 S.2.1 dX3_next_38 rfl (lv_at hl 0 rfl) ?_
        refine o_get S hG i_X3 (by decide) hM.1 rfl 1 (by decide) kf_7 rfl dX3_next_39 ?_
        refine lv_sipush (v := (nI 600)) S.1 S.2.1 dX3_next_42 (by decide) ?_
        refine lv_bipush (v := (nI 13)) S.1 S.2.1 dX3_next_45 (by decide) ?_
        refine lv_iload_n S.1 S.2.1 dX3_next_47 rfl (lv_at hl 1 rfl) ?_
        refine o_add S (a := 13) (b := q) dX3_next_48 ?_
        refine o_mul S (a := 600) (b := 13 + q) dX3_next_49 ?_
        refine lv_aload_n S.1 S.2.1 dX3_next_50 rfl (lv_at hl 0 rfl) ?_
        refine o_get S hG i_X3 (by decide) hM.1 rfl 5 (by decide) kf_23 rfl dX3_next_51 ?_
        refine lv_iload_n S.1 S.2.1 dX3_next_54 rfl (lv_at hl 1 rfl) ?_
        refine o_iald S hG (j := q) (by decide) hM.2.2.2.2.2.1 (by omega) dX3_next_55 (kk := ?_)
        refine o_top (zI_toNat hat.1) ?_
        refine o_add S (a := 600 * (13 + q)) (b := (pl q).toNat) dX3_next_56 ?_
        refine o_iald S hG (j := (600 * (13 + q)) + ((pl q).toNat)) (by decide) hM.2.1 (by omega) dX3_next_57 (kk := ?_)
        refine lv_istore_n (lv' := [(2, .int (K ((600 * (13 + q)) + ((pl q).toNat)))), (0, .ref (ad 76)), (1, .int (nI q))]) S.1 S.2.1 dX3_next_58 rfl hl (by decide) rfl (fun ls hl => ?_)
        refine lv_aload_n S.1 S.2.1 dX3_next_59 rfl (lv_at hl 1 rfl) ?_
        refine lv_iload_n S.1 S.2.1 dX3_next_60 rfl (lv_at hl 2 rfl) ?_
        refine o_cVv S (rest := []) (c_X3_goOn l G ad s0 f_1 0 K V sz th pl dn q hM hq1) (cwV 1 S.2.2.2.2 gX3_next_X3_goOn rfl rfl rfl (by decide +kernel) ⟨(Nat.le_of_ble_eq_true rfl), (Nat.le_of_ble_eq_true rfl)⟩) hG (by decide) hM.1 rfl rfl hl.1 rfl (Nat.le_of_ble_eq_true rfl) dX3_next_61 ⟨(Nat.le_of_ble_eq_true rfl), (Nat.le_of_ble_eq_true rfl)⟩ (fun f9 H locs hp hG => ?_)
        obtain ⟨hO9, hM⟩ := hp
        have hO := hO.tr hO9
        refine lv_iload_n S.1 S.2.1 dX3_next_64 rfl (lv_at hl 0 rfl) ?_
        exact ret _ _ _ _ _ _ _ _ hG ⟨hO, Or.inl ⟨q, hq1, rfl, hq2, Or.inl ⟨c_18, rfl, hM⟩⟩⟩ rfl (Nat.le_of_ble_eq_true rfl) (Nat.le_of_ble_eq_true rfl) dX3_next_65
      · skip
        exact absurd c_33 (by decide)
    · skip
      refine lv_iconst (v := (nI 2)) S.1 S.2.1 dX3_next_21 (by decide) ?_
      refine lv_goto (tgt := 26) S.1 S.2.1 dX3_next_22 (by decide) ?_
      refine o_put S hG i_X3 tyX3_ok nmX3 (by decide) hM.1 rfl 0 (by decide) kf_29 rfl rfl rfl (Nat.le_of_ble_eq_true rfl) dX3_next_26 (fun H locs hG => ?_)
      obtain ⟨f_2, ef_2, hG⟩ := ov_name hG
      have hM := hM.u0 (cd2 := 2) ef_2
      have hO := hO.up ef_2 (by decide)
      refine lv_aload_n S.1 S.2.1 dX3_next_29 rfl (lv_at hl 0 rfl) ?_
      refine o_get S hG i_X3 (by decide) hM.1 rfl 0 (by decide) kf_29 rfl dX3_next_30 ?_
      refine lv_if_le (tgt := 38) S.1 S.2.1 dX3_next_33 (by decide) (fun c_33 => ?_) (fun c_33 => ?_)
      · skip
        exact absurd c_33 (by decide)
      · skip
        refine lv_iconst (v := (nI 0)) S.1 S.2.1 dX3_next_36 (by decide) ?_
        exact ret _ _ _ _ _ _ _ _ hG ⟨hO, Or.inl ⟨q, hq1, rfl, hq2, Or.inr ⟨c_18, hM⟩⟩⟩ rfl (Nat.le_of_ble_eq_true rfl) (Nat.le_of_ble_eq_true rfl) dX3_next_37
  · skip
    refine lv_iconst (v := (nI 1)) S.1 S.2.1 dX3_next_9 (by decide) ?_
    refine lv_goto (tgt := 26) S.1 S.2.1 dX3_next_10 (by decide) ?_
    refine o_put S hG i_X3 tyX3_ok nmX3 (by decide) hM.1 rfl 0 (by decide) kf_29 rfl rfl rfl (Nat.le_of_ble_eq_true rfl) dX3_next_26 (fun H locs hG => ?_)
    obtain ⟨f_3, ef_3, hG⟩ := ov_name hG
    have hM := hM.u0 (cd2 := 1) ef_3
    have hO := hO.up ef_3 (by decide)
    refine lv_aload_n S.1 S.2.1 dX3_next_29 rfl (lv_at hl 0 rfl) ?_
    refine o_get S hG i_X3 (by decide) hM.1 rfl 0 (by decide) kf_29 rfl dX3_next_30 ?_
    refine lv_if_le (tgt := 38) S.1 S.2.1 dX3_next_33 (by decide) (fun c_33 => ?_) (fun c_33 => ?_)
    · skip
      exact absurd c_33 (by decide)
    · skip
      refine lv_iconst (v := (nI 0)) S.1 S.2.1 dX3_next_36 (by decide) ?_
      exact ret _ _ _ _ _ _ _ _ hG ⟨hO, Or.inr ⟨c_6, hM⟩⟩ rfl (Nat.le_of_ble_eq_true rfl) (Nat.le_of_ble_eq_true rfl) dX3_next_37

set_option maxHeartbeats 4000000 in
set_option maxRecDepth 100000 in
theorem c_X3_peek (l : Launch) (G : Gx) (ad : Nat → Nat) (s0 : Nat) (f : Nat → va_E) (cd : Nat) (K V : Nat → Int32) (sz : Nat → Nat) (th : Nat → Bool) (pl : Nat → Int) (dn : Nat → Bool) (v : Int32) (hM : MB G ad f cd K V sz th pl dn) (hW : ∀ j, j < 21 → th j = true → sz j ≤ 600) (h00 : th 0 = true) (hC : ∀ q, q < 8 → th (13 + q) = true → WCp (dn q) (pl q) (sz (13 + q))) : mI l yX3_peek wsX3_peek 1 21 0 0 [.ref (ad 76), .int v] G 84 ad s0 f (fun r f' => OnM f f' ∧ ((∃ q, q < 8 ∧ v = nI q ∧ th (13 + q) = true ∧ ((ate (pl q) (sz (13 + q)) = false ∧ r = of V (13 + q) (pl q).toNat ∧ MB G ad f' 0 K V sz th pl dn) ∨ (ate (pl q) (sz (13 + q)) = true ∧ MB G ad f' 2 K V sz th pl dn))) ∨ (isc th v = false ∧ MB G ad f' 1 K V sz th pl dn))) := by
  refine ov_mI (cc := cX3_peek) (maxL := 2) (ty := .int) (by decide) rfl (Nat.le_of_ble_eq_true rfl) ?_
  intro p e s m below meth c av Q S ret hG ls hl
  have S : CallFix p m c cX3_peek 2 s av wsX3_peek RX3 := S
  have hl : lv_has ls 2 [(0, .ref (ad 76)), (1, .int v)] := hl
  have i_X3 : ∀ w ∈ u_ws RX3 TX3 7, w ∈ wsX3_peek := by decide +kernel
  have kf_13 := S.2.2.2.2 (.fieldLink RX3 13 "OrderedVersionsModel" "values" "[I") (by decide +kernel)
  have kf_23 := S.2.2.2.2 (.fieldLink RX3 23 "OrderedVersionsModel" "places" "[I") (by decide +kernel)
  have kf_29 := S.2.2.2.2 (.fieldLink RX3 29 "OrderedVersionsModel" "code" "I") (by decide +kernel)
  have hO : OnM f f := OnM.rf
  refine lv_aload_n S.1 S.2.1 dX3_peek_0 rfl (lv_at hl 0 rfl) ?_
  refine lv_aload_n S.1 S.2.1 dX3_peek_1 rfl (lv_at hl 0 rfl) ?_
  refine lv_iload_n S.1 S.2.1 dX3_peek_2 rfl (lv_at hl 1 rfl) ?_
  refine o_cVi S (rest := [.ref (ad 76)]) (c_X3_isCursor l G ad s0 f cd K V sz th pl dn v hM ) (cwV 1 S.2.2.2.2 gX3_peek_X3_isCursor rfl rfl rfl (by decide +kernel) ⟨(Nat.le_of_ble_eq_true rfl), (Nat.le_of_ble_eq_true rfl)⟩) hG (by decide) hM.1 rfl rfl hl.1 rfl (Nat.le_of_ble_eq_true rfl) dX3_peek_3 ⟨(Nat.le_of_ble_eq_true rfl), (Nat.le_of_ble_eq_true rfl)⟩ (fun r9 f9 H locs hp hG => ?_)
  obtain ⟨rfl, rfl⟩ := hp
  refine b_if_ne S (b := (isc th v)) (tgt := 13) dX3_peek_6 (by decide) (fun c_6 => ?_) (fun c_6 => ?_)
  · skip
    obtain ⟨q, hq1, rfl, hq2⟩ := isc_ex c_6
    have hnq := hW (13 + q) (by omega) hq2
    have hwc := hC q hq1 hq2
    refine lv_aload_n S.1 S.2.1 dX3_peek_13 rfl (lv_at hl 0 rfl) ?_
    refine lv_iload_n S.1 S.2.1 dX3_peek_14 rfl (lv_at hl 1 rfl) ?_
    refine o_cVi S (rest := [.ref (ad 76)]) (c_X3_isAtEnd l G ad s0 f cd K V sz th pl dn q hM hq1 hnq (WC_b hwc)) (cwV 1 S.2.2.2.2 gX3_peek_X3_isAtEnd rfl rfl rfl (by decide +kernel) ⟨(Nat.le_of_ble_eq_true rfl), (Nat.le_of_ble_eq_true rfl)⟩) hG (by decide) hM.1 rfl rfl hl.1 rfl (Nat.le_of_ble_eq_true rfl) dX3_peek_15 ⟨(Nat.le_of_ble_eq_true rfl), (Nat.le_of_ble_eq_true rfl)⟩ (fun r9 f9 H locs hp hG => ?_)
    obtain ⟨rfl, rfl⟩ := hp
    refine b_if_eq S (b := (ate (pl q) (sz (13 + q)))) (tgt := 25) dX3_peek_18 (by decide) (fun c_18 => ?_) (fun c_18 => ?_)
    · skip
      have hat := ate_f c_18
      refine lv_iconst (v := (nI 0)) S.1 S.2.1 dX3_peek_25 (by decide) ?_
      refine o_put S hG i_X3 tyX3_ok nmX3 (by decide) hM.1 rfl 0 (by decide) kf_29 rfl rfl rfl (Nat.le_of_ble_eq_true rfl) dX3_peek_26 (fun H locs hG => ?_)
      obtain ⟨f_1, ef_1, hG⟩ := ov_name hG
      have hM := hM.u0 (cd2 := 0) ef_1
      have hO := hO.up ef_1 (by decide)
      refine lv_aload_n S.1 S.2.1 dX3_peek_29 rfl (lv_at hl 0 rfl) ?_
      refine o_get S hG i_X3 (by decide) hM.1 rfl 0 (by decide) kf_29 rfl dX3_peek_30 ?_
      refine lv_if_le (tgt := 40) S.1 S.2.1 dX3_peek_33 (by decide) (fun c_33 => ?_) (fun c_33 => ?_)
      · skip
        refine lv_aload_n S.1 S.2.1 dX3_peek_40 rfl (lv_at hl 0 rfl) ?_
        refine o_get S hG i_X3 (by decide) hM.1 rfl 2 (by decide) kf_13 rfl dX3_peek_41 ?_
        refine lv_sipush (v := (nI 600)) S.1 S.2.1 dX3_peek_44 (by decide) ?_
        refine lv_bipush (v := (nI 13)) S.1 S.2.1 dX3_peek_47 (by decide) ?_
        refine lv_iload_n S.1 S.2.1 dX3_peek_49 rfl (lv_at hl 1 rfl) ?_
        refine o_add S (a := 13) (b := q) dX3_peek_50 ?_
        refine o_mul S (a := 600) (b := 13 + q) dX3_peek_51 ?_
        refine lv_aload_n S.1 S.2.1 dX3_peek_52 rfl (lv_at hl 0 rfl) ?_
        refine o_get S hG i_X3 (by decide) hM.1 rfl 5 (by decide) kf_23 rfl dX3_peek_53 ?_
        refine lv_iload_n S.1 S.2.1 dX3_peek_56 rfl (lv_at hl 1 rfl) ?_
        refine o_iald S hG (j := q) (by decide) hM.2.2.2.2.2.1 (by omega) dX3_peek_57 (kk := ?_)
        refine o_top (zI_toNat hat.1) ?_
        refine o_add S (a := 600 * (13 + q)) (b := (pl q).toNat) dX3_peek_58 ?_
        refine o_iald S hG (j := (600 * (13 + q)) + ((pl q).toNat)) (by decide) hM.2.2.1 (by omega) dX3_peek_59 (kk := ?_)
        exact ret _ _ _ _ _ _ _ _ hG ⟨hO, Or.inl ⟨q, hq1, rfl, hq2, Or.inl ⟨c_18, rfl, hM⟩⟩⟩ rfl (Nat.le_of_ble_eq_true rfl) (Nat.le_of_ble_eq_true rfl) dX3_peek_60
      · skip
        exact absurd c_33 (by decide)
    · skip
      refine lv_iconst (v := (nI 2)) S.1 S.2.1 dX3_peek_21 (by decide) ?_
      refine lv_goto (tgt := 26) S.1 S.2.1 dX3_peek_22 (by decide) ?_
      refine o_put S hG i_X3 tyX3_ok nmX3 (by decide) hM.1 rfl 0 (by decide) kf_29 rfl rfl rfl (Nat.le_of_ble_eq_true rfl) dX3_peek_26 (fun H locs hG => ?_)
      obtain ⟨f_2, ef_2, hG⟩ := ov_name hG
      have hM := hM.u0 (cd2 := 2) ef_2
      have hO := hO.up ef_2 (by decide)
      refine lv_aload_n S.1 S.2.1 dX3_peek_29 rfl (lv_at hl 0 rfl) ?_
      refine o_get S hG i_X3 (by decide) hM.1 rfl 0 (by decide) kf_29 rfl dX3_peek_30 ?_
      refine lv_if_le (tgt := 40) S.1 S.2.1 dX3_peek_33 (by decide) (fun c_33 => ?_) (fun c_33 => ?_)
      · skip
        exact absurd c_33 (by decide)
      · skip
        refine lv_iconst (v := (nI 0)) S.1 S.2.1 dX3_peek_36 (by decide) ?_
        refine lv_goto (tgt := 60) S.1 S.2.1 dX3_peek_37 (by decide) ?_
        exact ret _ _ _ _ _ _ _ _ hG ⟨hO, Or.inl ⟨q, hq1, rfl, hq2, Or.inr ⟨c_18, hM⟩⟩⟩ rfl (Nat.le_of_ble_eq_true rfl) (Nat.le_of_ble_eq_true rfl) dX3_peek_60
  · skip
    refine lv_iconst (v := (nI 1)) S.1 S.2.1 dX3_peek_9 (by decide) ?_
    refine lv_goto (tgt := 26) S.1 S.2.1 dX3_peek_10 (by decide) ?_
    refine o_put S hG i_X3 tyX3_ok nmX3 (by decide) hM.1 rfl 0 (by decide) kf_29 rfl rfl rfl (Nat.le_of_ble_eq_true rfl) dX3_peek_26 (fun H locs hG => ?_)
    obtain ⟨f_3, ef_3, hG⟩ := ov_name hG
    have hM := hM.u0 (cd2 := 1) ef_3
    have hO := hO.up ef_3 (by decide)
    refine lv_aload_n S.1 S.2.1 dX3_peek_29 rfl (lv_at hl 0 rfl) ?_
    refine o_get S hG i_X3 (by decide) hM.1 rfl 0 (by decide) kf_29 rfl dX3_peek_30 ?_
    refine lv_if_le (tgt := 40) S.1 S.2.1 dX3_peek_33 (by decide) (fun c_33 => ?_) (fun c_33 => ?_)
    · skip
      exact absurd c_33 (by decide)
    · skip
      refine lv_iconst (v := (nI 0)) S.1 S.2.1 dX3_peek_36 (by decide) ?_
      refine lv_goto (tgt := 60) S.1 S.2.1 dX3_peek_37 (by decide) ?_
      exact ret _ _ _ _ _ _ _ _ hG ⟨hO, Or.inr ⟨c_6, hM⟩⟩ rfl (Nat.le_of_ble_eq_true rfl) (Nat.le_of_ble_eq_true rfl) dX3_peek_60

set_option maxHeartbeats 4000000 in
set_option maxRecDepth 100000 in
theorem c_X3_skip (l : Launch) (G : Gx) (ad : Nat → Nat) (s0 : Nat) (f : Nat → va_E) (cd : Nat) (K V : Nat → Int32) (sz : Nat → Nat) (th : Nat → Bool) (pl : Nat → Int) (dn : Nat → Bool) (v n : Int32) (hM : MB G ad f cd K V sz th pl dn) (hW : ∀ j, j < 21 → th j = true → sz j ≤ 600) (h00 : th 0 = true) (hC : ∀ q, q < 8 → th (13 + q) = true → WCp (dn q) (pl q) (sz (13 + q))) : mI l yX3_skip wsX3_skip 1 21 0 0 [.ref (ad 76), .int v, .int n] G 84 ad s0 f (fun r f' => OnM f f' ∧ ((∃ q, q < 8 ∧ v = nI q ∧ th (13 + q) = true ∧ ((∃ w, w < 2 ^ 31 ∧ n = nI w ∧ r = nI (min w (lft (dn q) (pl q) (sz (13 + q)))) ∧ MB G ad f' 0 K V sz th (va_up pl q (stp (dn q) (pl q) (min w (lft (dn q) (pl q) (sz (13 + q)))))) dn) ∨ (n < 0 ∧ MB G ad f' 2 K V sz th pl dn))) ∨ (isc th v = false ∧ MB G ad f' 1 K V sz th pl dn))) := by
  refine ov_mI (cc := cX3_skip) (maxL := 4) (ty := .int) (by decide) rfl (Nat.le_of_ble_eq_true rfl) ?_
  intro p e s m below meth c av Q S ret hG ls hl
  have S : CallFix p m c cX3_skip 4 s av wsX3_skip RX3 := S
  have hl : lv_has ls 4 [(0, .ref (ad 76)), (1, .int v), (2, .int n)] := hl
  have i_X3 : ∀ w ∈ u_ws RX3 TX3 7, w ∈ wsX3_skip := by decide +kernel
  have kf_29 := S.2.2.2.2 (.fieldLink RX3 29 "OrderedVersionsModel" "code" "I") (by decide +kernel)
  have hO : OnM f f := OnM.rf
  refine lv_aload_n S.1 S.2.1 dX3_skip_0 rfl (lv_at hl 0 rfl) ?_
  refine lv_aload_n S.1 S.2.1 dX3_skip_1 rfl (lv_at hl 0 rfl) ?_
  refine lv_iload_n S.1 S.2.1 dX3_skip_2 rfl (lv_at hl 1 rfl) ?_
  refine o_cVi S (rest := [.ref (ad 76)]) (c_X3_isCursor l G ad s0 f cd K V sz th pl dn v hM ) (cwV 1 S.2.2.2.2 gX3_skip_X3_isCursor rfl rfl rfl (by decide +kernel) ⟨(Nat.le_of_ble_eq_true rfl), (Nat.le_of_ble_eq_true rfl)⟩) hG (by decide) hM.1 rfl rfl hl.1 rfl (Nat.le_of_ble_eq_true rfl) dX3_skip_3 ⟨(Nat.le_of_ble_eq_true rfl), (Nat.le_of_ble_eq_true rfl)⟩ (fun r9 f9 H locs hp hG => ?_)
  obtain ⟨rfl, rfl⟩ := hp
  refine b_if_ne S (b := (isc th v)) (tgt := 13) dX3_skip_6 (by decide) (fun c_6 => ?_) (fun c_6 => ?_)
  · skip
    obtain ⟨q, hq1, rfl, hq2⟩ := isc_ex c_6
    have hnq := hW (13 + q) (by omega) hq2
    have hwc := hC q hq1 hq2
    refine lv_iload_n S.1 S.2.1 dX3_skip_13 rfl (lv_at hl 2 rfl) ?_
    refine lv_if_ge (tgt := 21) S.1 S.2.1 dX3_skip_14 (by decide) (fun c_14 => ?_) (fun c_14 => ?_)
    · skip
      obtain ⟨w, hw, rfl⟩ := n_ge0 c_14
      refine lv_iconst (v := (nI 0)) S.1 S.2.1 dX3_skip_21 (by decide) ?_
      refine o_put S hG i_X3 tyX3_ok nmX3 (by decide) hM.1 rfl 0 (by decide) kf_29 rfl rfl rfl (Nat.le_of_ble_eq_true rfl) dX3_skip_22 (fun H locs hG => ?_)
      obtain ⟨f_1, ef_1, hG⟩ := ov_name hG
      have hM := hM.u0 (cd2 := 0) ef_1
      have hO := hO.up ef_1 (by decide)
      refine lv_iconst (v := (nI 0)) S.1 S.2.1 dX3_skip_25 (by decide) ?_
      refine lv_istore_n (lv' := [(3, .int (nI 0)), (0, .ref (ad 76)), (1, .int (nI q)), (2, .int (nI w))]) S.1 S.2.1 dX3_skip_26 rfl hl (by decide) rfl (fun ls hl => ?_)
      have L_27 : ∀ (d9 : Nat) (p0 : Int) (i : Nat) (f2 : Nat → va_E) (H : Heap) (locs : List Loc), (MB G ad f2 0 K V sz th (va_up pl q p0) dn) → (OnM f f2) → (i ≤ w) → (p0 = stp (dn q) (pl q) i) → (i ≤ lft (dn q) (pl q) (sz (13 + q))) → (w - i) < d9 → ov_dy G 84 ad s0 s f2 H locs → ∀ ls : Array Slot, lv_has ls 4 [(0, .ref (ad 76)), (1, .int (nI q)), (2, .int (nI w)), (3, .int (nI i))] → W p l e (ov_rm 1 21 0 0) s m av below meth c H locs 0 0 Q (F0 m 27 ls []) := by
        intro d9
        induction d9 with
        | zero => intro p0 i f2 H locs hM hO hi hs9 hl9 h9; exact absurd h9 (Nat.not_lt_zero _)
        | succ d9 ih_27 =>
          intro p0 i f2 H locs hM hO hi hs9 hl9 h9 hG ls hl
          refine lv_aload_n S.1 S.2.1 dX3_skip_27 rfl (lv_at hl 0 rfl) ?_
          refine o_get S hG i_X3 (by decide) hM.1 rfl 0 (by decide) kf_29 rfl dX3_skip_28 ?_
          refine n_if_ne S (a := 0) (tgt := 58) dX3_skip_31 (by decide) (by omega) (fun c_31 => ?_) (fun c_31 => ?_)
          · skip
            exact absurd c_31 (by decide)
          · skip
            refine lv_iload_n S.1 S.2.1 dX3_skip_34 rfl (lv_at hl 3 rfl) ?_
            refine lv_iload_n S.1 S.2.1 dX3_skip_35 rfl (lv_at hl 2 rfl) ?_
            refine n_ge S (a := i) (b := w) (tgt := 58) dX3_skip_36 (by decide) (by omega) (by omega) (fun c_36 => ?_) (fun c_36 => ?_)
            · skip
              refine lv_iload_n S.1 S.2.1 dX3_skip_58 rfl (lv_at hl 3 rfl) ?_
              exact ret _ _ _ _ _ _ _ _ hG ⟨hO, Or.inl ⟨q, hq1, rfl, hq2, Or.inl ⟨w, hw, rfl, by rw [show min w (lft (dn q) (pl q) (sz (13 + q))) = i from by omega], by rw [show min w (lft (dn q) (pl q) (sz (13 + q))) = i from by omega, ← hs9]; exact hM⟩⟩⟩ rfl (Nat.le_of_ble_eq_true rfl) (Nat.le_of_ble_eq_true rfl) dX3_skip_59
            · skip
              refine lv_aload_n S.1 S.2.1 dX3_skip_39 rfl (lv_at hl 0 rfl) ?_
              refine lv_iload_n S.1 S.2.1 dX3_skip_40 rfl (lv_at hl 1 rfl) ?_
              refine o_cVi S (rest := []) (c_X3_isAtEnd l G ad s0 f2 0 K V sz th (va_up pl q p0) dn q hM hq1 hnq (by rw [va_up_self]; exact stp_b hwc hs9 hl9)) (cwV 1 S.2.2.2.2 gX3_skip_X3_isAtEnd rfl rfl rfl (by decide +kernel) ⟨(Nat.le_of_ble_eq_true rfl), (Nat.le_of_ble_eq_true rfl)⟩) hG (by decide) hM.1 rfl rfl hl.1 rfl (Nat.le_of_ble_eq_true rfl) dX3_skip_41 ⟨(Nat.le_of_ble_eq_true rfl), (Nat.le_of_ble_eq_true rfl)⟩ (fun r9 f9 H locs hp hG => ?_)
              obtain ⟨rfl, rfl⟩ := hp
              refine o_top (show _ = bI (ate p0 (sz (13 + q))) from by rw [va_up_self]) ?_
              refine b_if_ne S (b := (ate p0 (sz (13 + q)))) (tgt := 58) dX3_skip_44 (by decide) (fun c_44 => ?_) (fun c_44 => ?_)
              · skip
                refine lv_iload_n S.1 S.2.1 dX3_skip_58 rfl (lv_at hl 3 rfl) ?_
                exact ret _ _ _ _ _ _ _ _ hG ⟨hO, Or.inl ⟨q, hq1, rfl, hq2, Or.inl ⟨w, hw, rfl, by rw [show min w (lft (dn q) (pl q) (sz (13 + q))) = i from by have := stp_t hwc hs9 hl9 c_44; omega], by rw [show min w (lft (dn q) (pl q) (sz (13 + q))) = i from by have := stp_t hwc hs9 hl9 c_44; omega, ← hs9]; exact hM⟩⟩⟩ rfl (Nat.le_of_ble_eq_true rfl) (Nat.le_of_ble_eq_true rfl) dX3_skip_59
              · skip
                refine lv_aload_n S.1 S.2.1 dX3_skip_47 rfl (lv_at hl 0 rfl) ?_
                refine lv_iload_n S.1 S.2.1 dX3_skip_48 rfl (lv_at hl 1 rfl) ?_
                refine o_cVv S (rest := []) (c_X3_goOn l G ad s0 f2 0 K V sz th (va_up pl q p0) dn q hM hq1) (cwV 1 S.2.2.2.2 gX3_skip_X3_goOn rfl rfl rfl (by decide +kernel) ⟨(Nat.le_of_ble_eq_true rfl), (Nat.le_of_ble_eq_true rfl)⟩) hG (by decide) hM.1 rfl rfl hl.1 rfl (Nat.le_of_ble_eq_true rfl) dX3_skip_49 ⟨(Nat.le_of_ble_eq_true rfl), (Nat.le_of_ble_eq_true rfl)⟩ (fun f9 H locs hp hG => ?_)
                obtain ⟨hO9, hM⟩ := hp
                rw [va_up_self, bx_uu] at hM
                have hO := hO.tr hO9
                refine lv_iinc (v := (nI (i + 1))) (lv' := [(3, .int (nI (i + 1))), (0, .ref (ad 76)), (1, .int (nI q)), (2, .int (nI w))]) S.1 S.2.1 dX3_skip_52 hl (k := 3) rfl (nI_add i 1) (by decide) rfl (fun ls hl => ?_)
                refine lv_goto (tgt := 27) S.1 S.2.1 dX3_skip_55 (by decide) ?_
                exact ih_27 (gon (dn q) p0) (i + 1) f9 _ _ hM hO (by omega) (stp_s hs9) (stp_f hwc hs9 hl9 c_44) (by omega) hG ls (lv_sub hl [1, 2, 3, 0] rfl)
      exact L_27 _ (pl q) 0 f_1 _ _ (by rw [up_id]; exact hM) hO (Nat.zero_le _) (stp_0 _ _) (Nat.zero_le _) (Nat.lt_succ_self _) hG ls (lv_sub hl [1, 2, 3, 0] rfl)
    · skip
      refine lv_iconst (v := (nI 2)) S.1 S.2.1 dX3_skip_17 (by decide) ?_
      refine lv_goto (tgt := 22) S.1 S.2.1 dX3_skip_18 (by decide) ?_
      refine o_put S hG i_X3 tyX3_ok nmX3 (by decide) hM.1 rfl 0 (by decide) kf_29 rfl rfl rfl (Nat.le_of_ble_eq_true rfl) dX3_skip_22 (fun H locs hG => ?_)
      obtain ⟨f_2, ef_2, hG⟩ := ov_name hG
      have hM := hM.u0 (cd2 := 2) ef_2
      have hO := hO.up ef_2 (by decide)
      refine lv_iconst (v := (nI 0)) S.1 S.2.1 dX3_skip_25 (by decide) ?_
      refine lv_istore_n (lv' := [(3, .int (nI 0)), (0, .ref (ad 76)), (1, .int (nI q)), (2, .int n)]) S.1 S.2.1 dX3_skip_26 rfl hl (by decide) rfl (fun ls hl => ?_)
      refine lv_aload_n S.1 S.2.1 dX3_skip_27 rfl (lv_at hl 1 rfl) ?_
      refine o_get S hG i_X3 (by decide) hM.1 rfl 0 (by decide) kf_29 rfl dX3_skip_28 ?_
      refine n_if_ne S (a := 2) (tgt := 58) dX3_skip_31 (by decide) (by omega) (fun c_31 => ?_) (fun c_31 => ?_)
      · skip
        refine lv_iload_n S.1 S.2.1 dX3_skip_58 rfl (lv_at hl 0 rfl) ?_
        exact ret _ _ _ _ _ _ _ _ hG ⟨hO, Or.inl ⟨q, hq1, rfl, hq2, Or.inr ⟨i32_of_nle c_14, hM⟩⟩⟩ rfl (Nat.le_of_ble_eq_true rfl) (Nat.le_of_ble_eq_true rfl) dX3_skip_59
      · skip
        exact absurd c_31 (by decide)
  · skip
    refine lv_iconst (v := (nI 1)) S.1 S.2.1 dX3_skip_9 (by decide) ?_
    refine lv_goto (tgt := 22) S.1 S.2.1 dX3_skip_10 (by decide) ?_
    refine o_put S hG i_X3 tyX3_ok nmX3 (by decide) hM.1 rfl 0 (by decide) kf_29 rfl rfl rfl (Nat.le_of_ble_eq_true rfl) dX3_skip_22 (fun H locs hG => ?_)
    obtain ⟨f_3, ef_3, hG⟩ := ov_name hG
    have hM := hM.u0 (cd2 := 1) ef_3
    have hO := hO.up ef_3 (by decide)
    refine lv_iconst (v := (nI 0)) S.1 S.2.1 dX3_skip_25 (by decide) ?_
    refine lv_istore_n (lv' := [(3, .int (nI 0)), (0, .ref (ad 76)), (1, .int v), (2, .int n)]) S.1 S.2.1 dX3_skip_26 rfl hl (by decide) rfl (fun ls hl => ?_)
    refine lv_aload_n S.1 S.2.1 dX3_skip_27 rfl (lv_at hl 1 rfl) ?_
    refine o_get S hG i_X3 (by decide) hM.1 rfl 0 (by decide) kf_29 rfl dX3_skip_28 ?_
    refine n_if_ne S (a := 1) (tgt := 58) dX3_skip_31 (by decide) (by omega) (fun c_31 => ?_) (fun c_31 => ?_)
    · skip
      refine lv_iload_n S.1 S.2.1 dX3_skip_58 rfl (lv_at hl 0 rfl) ?_
      exact ret _ _ _ _ _ _ _ _ hG ⟨hO, Or.inr ⟨c_6, hM⟩⟩ rfl (Nat.le_of_ble_eq_true rfl) (Nat.le_of_ble_eq_true rfl) dX3_skip_59
    · skip
      exact absurd c_31 (by decide)

set_option maxHeartbeats 4000000 in
set_option maxRecDepth 100000 in
theorem c_X3_close (l : Launch) (G : Gx) (ad : Nat → Nat) (s0 : Nat) (f : Nat → va_E) (cd : Nat) (K V : Nat → Int32) (sz : Nat → Nat) (th : Nat → Bool) (pl : Nat → Int) (dn : Nat → Bool) (v : Int32) (hM : MB G ad f cd K V sz th pl dn) (hW : ∀ j, j < 21 → th j = true → sz j ≤ 600) (h00 : th 0 = true) : mI l yX3_close wsX3_close 1 21 0 0 [.ref (ad 76), .int v] G 84 ad s0 f (fun r f' => OnM f f' ∧ ((∃ q, q < 8 ∧ v = nI q ∧ th (13 + q) = true ∧ r = nI (cnt 8 (fun z => va_up th (13 + q) false (13 + z))) ∧ MB G ad f' 0 K V sz (va_up th (13 + q) false) pl dn) ∨ (isc th v = false ∧ MB G ad f' 1 K V sz th pl dn))) := by
  refine ov_mI (cc := cX3_close) (maxL := 4) (ty := .int) (by decide) rfl (Nat.le_of_ble_eq_true rfl) ?_
  intro p e s m below meth c av Q S ret hG ls hl
  have S : CallFix p m c cX3_close 4 s av wsX3_close RX3 := S
  have hl : lv_has ls 4 [(0, .ref (ad 76)), (1, .int v)] := hl
  have i_X3 : ∀ w ∈ u_ws RX3 TX3 7, w ∈ wsX3_close := by decide +kernel
  have kf_19 := S.2.2.2.2 (.fieldLink RX3 19 "OrderedVersionsModel" "there" "[Z") (by decide +kernel)
  have kf_29 := S.2.2.2.2 (.fieldLink RX3 29 "OrderedVersionsModel" "code" "I") (by decide +kernel)
  have hO : OnM f f := OnM.rf
  refine lv_aload_n S.1 S.2.1 dX3_close_0 rfl (lv_at hl 0 rfl) ?_
  refine lv_aload_n S.1 S.2.1 dX3_close_1 rfl (lv_at hl 0 rfl) ?_
  refine lv_iload_n S.1 S.2.1 dX3_close_2 rfl (lv_at hl 1 rfl) ?_
  refine o_cVi S (rest := [.ref (ad 76)]) (c_X3_isCursor l G ad s0 f cd K V sz th pl dn v hM ) (cwV 1 S.2.2.2.2 gX3_close_X3_isCursor rfl rfl rfl (by decide +kernel) ⟨(Nat.le_of_ble_eq_true rfl), (Nat.le_of_ble_eq_true rfl)⟩) hG (by decide) hM.1 rfl rfl hl.1 rfl (Nat.le_of_ble_eq_true rfl) dX3_close_3 ⟨(Nat.le_of_ble_eq_true rfl), (Nat.le_of_ble_eq_true rfl)⟩ (fun r9 f9 H locs hp hG => ?_)
  obtain ⟨rfl, rfl⟩ := hp
  refine b_if_eq S (b := (isc th v)) (tgt := 13) dX3_close_6 (by decide) (fun c_6 => ?_) (fun c_6 => ?_)
  · skip
    refine lv_iconst (v := (nI 1)) S.1 S.2.1 dX3_close_13 (by decide) ?_
    refine o_put S hG i_X3 tyX3_ok nmX3 (by decide) hM.1 rfl 0 (by decide) kf_29 rfl rfl rfl (Nat.le_of_ble_eq_true rfl) dX3_close_14 (fun H locs hG => ?_)
    obtain ⟨f_1, ef_1, hG⟩ := ov_name hG
    have hM := hM.u0 (cd2 := 1) ef_1
    have hO := hO.up ef_1 (by decide)
    refine lv_aload_n S.1 S.2.1 dX3_close_17 rfl (lv_at hl 0 rfl) ?_
    refine o_get S hG i_X3 (by decide) hM.1 rfl 0 (by decide) kf_29 rfl dX3_close_18 ?_
    refine lv_if_le (tgt := 26) S.1 S.2.1 dX3_close_21 (by decide) (fun c_21 => ?_) (fun c_21 => ?_)
    · skip
      exact absurd c_21 (by decide)
    · skip
      refine lv_iconst (v := (nI 0)) S.1 S.2.1 dX3_close_24 (by decide) ?_
      exact ret _ _ _ _ _ _ _ _ hG ⟨hO, Or.inr ⟨c_6, hM⟩⟩ rfl (Nat.le_of_ble_eq_true rfl) (Nat.le_of_ble_eq_true rfl) dX3_close_25
  · skip
    obtain ⟨q, hq1, rfl, hq2⟩ := isc_ex c_6
    refine lv_iconst (v := (nI 0)) S.1 S.2.1 dX3_close_9 (by decide) ?_
    refine lv_goto (tgt := 14) S.1 S.2.1 dX3_close_10 (by decide) ?_
    refine o_put S hG i_X3 tyX3_ok nmX3 (by decide) hM.1 rfl 0 (by decide) kf_29 rfl rfl rfl (Nat.le_of_ble_eq_true rfl) dX3_close_14 (fun H locs hG => ?_)
    obtain ⟨f_2, ef_2, hG⟩ := ov_name hG
    have hM := hM.u0 (cd2 := 0) ef_2
    have hO := hO.up ef_2 (by decide)
    refine lv_aload_n S.1 S.2.1 dX3_close_17 rfl (lv_at hl 0 rfl) ?_
    refine o_get S hG i_X3 (by decide) hM.1 rfl 0 (by decide) kf_29 rfl dX3_close_18 ?_
    refine lv_if_le (tgt := 26) S.1 S.2.1 dX3_close_21 (by decide) (fun c_21 => ?_) (fun c_21 => ?_)
    · skip
      refine lv_aload_n S.1 S.2.1 dX3_close_26 rfl (lv_at hl 0 rfl) ?_
      refine o_get S hG i_X3 (by decide) hM.1 rfl 4 (by decide) kf_19 rfl dX3_close_27 ?_
      refine lv_bipush (v := (nI 13)) S.1 S.2.1 dX3_close_30 (by decide) ?_
      refine lv_iload_n S.1 S.2.1 dX3_close_32 rfl (lv_at hl 1 rfl) ?_
      refine o_add S (a := 13) (b := q) dX3_close_33 ?_
      refine lv_iconst (v := (nI 0)) S.1 S.2.1 dX3_close_34 (by decide) ?_
      refine o_zast S hG (j := 13 + q) (by decide) hM.2.2.2.2.1 (by omega) rfl dX3_close_35 (kk := fun H locs hG => ?_)
      obtain ⟨f_3, ef_3, hG⟩ := ov_name hG
      have hM := hM.uT (j := 13 + q) (b := false) ef_3
      have hO := hO.up ef_3 (by decide)
      refine lv_iconst (v := (nI 0)) S.1 S.2.1 dX3_close_36 (by decide) ?_
      refine lv_istore_n (lv' := [(2, .int (nI 0)), (0, .ref (ad 76)), (1, .int (nI q))]) S.1 S.2.1 dX3_close_37 rfl hl (by decide) rfl (fun ls hl => ?_)
      refine lv_iconst (v := (nI 0)) S.1 S.2.1 dX3_close_38 (by decide) ?_
      refine lv_istore_n (lv' := [(3, .int (nI 0)), (2, .int (nI 0)), (0, .ref (ad 76)), (1, .int (nI q))]) S.1 S.2.1 dX3_close_39 rfl hl (by decide) rfl (fun ls hl => ?_)
      have L_40 : ∀ (d9 : Nat) (c0 : Nat) (i : Nat) (H : Heap) (locs : List Loc), (i ≤ 8) → (c0 = cnt i (fun z => va_up th (13 + q) false (13 + z))) → (8 - i) < d9 → ov_dy G 84 ad s0 s f_3 H locs → ∀ ls : Array Slot, lv_has ls 4 [(0, .ref (ad 76)), (1, .int (nI q)), (2, .int (nI c0)), (3, .int (nI i))] → W p l e (ov_rm 1 21 0 0) s m av below meth c H locs 0 0 Q (F0 m 40 ls []) := by
        intro d9
        induction d9 with
        | zero => intro c0 i H locs hi hc h9; exact absurd h9 (Nat.not_lt_zero _)
        | succ d9 ih_40 =>
          intro c0 i H locs hi hc h9 hG ls hl
          refine lv_iload_n S.1 S.2.1 dX3_close_40 rfl (lv_at hl 3 rfl) ?_
          refine lv_bipush (v := (nI 8)) S.1 S.2.1 dX3_close_41 (by decide) ?_
          refine n_ge S (a := i) (b := 8) (tgt := 72) dX3_close_43 (by decide) (by omega) (by omega) (fun c_43 => ?_) (fun c_43 => ?_)
          · skip
            refine lv_iload_n S.1 S.2.1 dX3_close_72 rfl (lv_at hl 2 rfl) ?_
            exact ret _ _ _ _ _ _ _ _ hG ⟨hO, Or.inl ⟨q, hq1, rfl, hq2, by rw [hc, show i = 8 by omega], hM⟩⟩ rfl (Nat.le_of_ble_eq_true rfl) (Nat.le_of_ble_eq_true rfl) dX3_close_73
          · skip
            refine lv_iload_n S.1 S.2.1 dX3_close_46 rfl (lv_at hl 2 rfl) ?_
            refine lv_aload_n S.1 S.2.1 dX3_close_47 rfl (lv_at hl 0 rfl) ?_
            refine o_get S hG i_X3 (by decide) hM.1 rfl 4 (by decide) kf_19 rfl dX3_close_48 ?_
            refine lv_bipush (v := (nI 13)) S.1 S.2.1 dX3_close_51 (by decide) ?_
            refine lv_iload_n S.1 S.2.1 dX3_close_53 rfl (lv_at hl 3 rfl) ?_
            refine o_add S (a := 13) (b := i) dX3_close_54 ?_
            refine o_zald S hG (j := 13 + i) (by decide) hM.2.2.2.2.1 (by omega) dX3_close_55 (kk := ?_)
            refine b_if_eq S (b := (va_up th (13 + q) false) (13 + i)) (tgt := 63) dX3_close_56 (by decide) (fun c_56 => ?_) (fun c_56 => ?_)
            · skip
              refine lv_iconst (v := (nI 0)) S.1 S.2.1 dX3_close_63 (by decide) ?_
              refine o_add S (a := c0) (b := 0) dX3_close_64 ?_
              refine lv_istore_n (lv' := [(2, .int (nI (c0 + 0))), (0, .ref (ad 76)), (1, .int (nI q)), (3, .int (nI i))]) S.1 S.2.1 dX3_close_65 rfl hl (by decide) rfl (fun ls hl => ?_)
              refine lv_iinc (v := (nI (i + 1))) (lv' := [(3, .int (nI (i + 1))), (2, .int (nI (c0 + 0))), (0, .ref (ad 76)), (1, .int (nI q))]) S.1 S.2.1 dX3_close_66 hl (k := 3) rfl (nI_add i 1) (by decide) rfl (fun ls hl => ?_)
              refine lv_goto (tgt := 40) S.1 S.2.1 dX3_close_69 (by decide) ?_
              exact ih_40 (c0 + 0) (i + 1) _ _ (by omega) (by rw [hc]; exact (cnt_f (n := i) (p := fun z => va_up th (13 + q) false (13 + z)) c_56).symm) (by omega) hG ls (lv_sub hl [2, 3, 1, 0] rfl)
            · skip
              refine lv_iconst (v := (nI 1)) S.1 S.2.1 dX3_close_59 (by decide) ?_
              refine lv_goto (tgt := 64) S.1 S.2.1 dX3_close_60 (by decide) ?_
              refine o_add S (a := c0) (b := 1) dX3_close_64 ?_
              refine lv_istore_n (lv' := [(2, .int (nI (c0 + 1))), (0, .ref (ad 76)), (1, .int (nI q)), (3, .int (nI i))]) S.1 S.2.1 dX3_close_65 rfl hl (by decide) rfl (fun ls hl => ?_)
              refine lv_iinc (v := (nI (i + 1))) (lv' := [(3, .int (nI (i + 1))), (2, .int (nI (c0 + 1))), (0, .ref (ad 76)), (1, .int (nI q))]) S.1 S.2.1 dX3_close_66 hl (k := 3) rfl (nI_add i 1) (by decide) rfl (fun ls hl => ?_)
              refine lv_goto (tgt := 40) S.1 S.2.1 dX3_close_69 (by decide) ?_
              exact ih_40 (c0 + 1) (i + 1) _ _ (by omega) (by rw [hc]; exact (cnt_t (n := i) (p := fun z => va_up th (13 + q) false (13 + z)) c_56).symm) (by omega) hG ls (lv_sub hl [2, 3, 1, 0] rfl)
      exact L_40 _ 0 0 _ _ (by decide) rfl (Nat.lt_succ_self _) hG ls (lv_sub hl [2, 3, 1, 0] rfl)
    · skip
      exact absurd c_21 (by decide)

set_option maxHeartbeats 4000000 in
set_option maxRecDepth 100000 in
theorem c_X3_open (l : Launch) (G : Gx) (ad : Nat → Nat) (s0 : Nat) (f : Nat → va_E) (cd : Nat) (K V : Nat → Int32) (sz : Nat → Nat) (th : Nat → Bool) (pl : Nat → Int) (dn : Nat → Bool) (v key : Int32) (dw : Bool) (hM : MB G ad f cd K V sz th pl dn) (hW : ∀ j, j < 21 → th j = true → sz j ≤ 600) (h00 : th 0 = true) : mI l yX3_open wsX3_open 3 68 0 0 [.ref (ad 76), .int v, .int key, .int (bI dw)] G 84 ad s0 f (fun r f' => OnM f f' ∧ ((∃ j, j ≤ 12 ∧ v = nI j ∧ th j = true ∧ ((∃ z, 13 ≤ z ∧ z ≤ 20 ∧ th z = false ∧ (∀ i, 13 ≤ i → i < z → th i = true) ∧ r = nI (z - 13) ∧ ∃ K2 V2, MB G ad f' 0 K2 V2 (va_up sz z (sz j)) (va_up th z true) (va_up pl (z - 13) (if dw = true then (upt (sz j) (of K2 z) key : Int) - 1 else (bel (sz j) (of K2 z) key : Int))) (va_up dn (z - 13) dw) ∧ (∀ i, i < sz j → K2 (600 * z + i) = K (600 * j + i) ∧ V2 (600 * z + i) = V (600 * j + i)) ∧ ∀ x, x < 600 * z ∨ 600 * z + 600 ≤ x → K2 x = K x ∧ V2 x = V x) ∨ ((∀ i, 13 ≤ i → i ≤ 20 → th i = true) ∧ MB G ad f' 2 K V sz th pl dn))) ∨ (isv th v = false ∧ MB G ad f' 1 K V sz th pl dn))) := by
  refine ov_mI (cc := cX3_open) (maxL := 5) (ty := .int) (by decide) rfl (Nat.le_of_ble_eq_true rfl) ?_
  intro p e s m below meth c av Q S ret hG ls hl
  have S : CallFix p m c cX3_open 5 s av wsX3_open RX3 := S
  have hl : lv_has ls 5 [(0, .ref (ad 76)), (1, .int v), (2, .int key), (3, .int (bI dw))] := hl
  have i_X3 : ∀ w ∈ u_ws RX3 TX3 7, w ∈ wsX3_open := by decide +kernel
  have kf_19 := S.2.2.2.2 (.fieldLink RX3 19 "OrderedVersionsModel" "there" "[Z") (by decide +kernel)
  have kf_23 := S.2.2.2.2 (.fieldLink RX3 23 "OrderedVersionsModel" "places" "[I") (by decide +kernel)
  have kf_26 := S.2.2.2.2 (.fieldLink RX3 26 "OrderedVersionsModel" "downs" "[Z") (by decide +kernel)
  have kf_29 := S.2.2.2.2 (.fieldLink RX3 29 "OrderedVersionsModel" "code" "I") (by decide +kernel)
  have hO : OnM f f := OnM.rf
  refine lv_aload_n S.1 S.2.1 dX3_open_0 rfl (lv_at hl 0 rfl) ?_
  refine lv_bipush (v := (nI 13)) S.1 S.2.1 dX3_open_1 (by decide) ?_
  refine lv_bipush (v := (nI 20)) S.1 S.2.1 dX3_open_3 (by decide) ?_
  refine o_cVi S (rest := []) (c_X3_spare l G ad s0 f cd K V sz th pl dn 13 20 hM (by decide) (by decide) (by decide)) (cwV 2 S.2.2.2.2 gX3_open_X3_spare rfl rfl rfl (by decide +kernel) ⟨(Nat.le_of_ble_eq_true rfl), (Nat.le_of_ble_eq_true rfl)⟩) hG (by decide) hM.1 rfl rfl hl.1 rfl (Nat.le_of_ble_eq_true rfl) dX3_open_5 ⟨(Nat.le_of_ble_eq_true rfl), (Nat.le_of_ble_eq_true rfl)⟩ (fun r9 f9 H locs hp hG => ?_)
  rcases hp with ⟨rfl, ⟨z, hz1, hz2, hz3, hz4, rfl⟩ | ⟨rfl, hz5⟩⟩
  · skip
    refine lv_istore (lv' := [(4, .int (nI z)), (0, .ref (ad 76)), (1, .int v), (2, .int key), (3, .int (bI dw))]) S.1 S.2.1 dX3_open_8 hl (by decide) rfl (fun ls hl => ?_)
    refine lv_aload_n S.1 S.2.1 dX3_open_10 rfl (lv_at hl 1 rfl) ?_
    refine lv_aload_n S.1 S.2.1 dX3_open_11 rfl (lv_at hl 1 rfl) ?_
    refine lv_iload_n S.1 S.2.1 dX3_open_12 rfl (lv_at hl 2 rfl) ?_
    refine o_cVi S (rest := [.ref (ad 76)]) (c_X3_isVersion l G ad s0 f cd K V sz th pl dn v hM ) (cwV 1 S.2.2.2.2 gX3_open_X3_isVersion rfl rfl rfl (by decide +kernel) ⟨(Nat.le_of_ble_eq_true rfl), (Nat.le_of_ble_eq_true rfl)⟩) hG (by decide) hM.1 rfl rfl hl.1 rfl (Nat.le_of_ble_eq_true rfl) dX3_open_13 ⟨(Nat.le_of_ble_eq_true rfl), (Nat.le_of_ble_eq_true rfl)⟩ (fun r9 f9 H locs hp hG => ?_)
    obtain ⟨rfl, rfl⟩ := hp
    refine b_if_ne S (b := (isv th v)) (tgt := 23) dX3_open_16 (by decide) (fun c_16 => ?_) (fun c_16 => ?_)
    · skip
      obtain ⟨j, hj2, rfl, hj3⟩ := isv_ex c_16
      have hnj := hW j (by omega) hj3
      refine lv_iload S.1 S.2.1 dX3_open_23 (lv_at hl 0 rfl) ?_
      refine lv_if_ge (tgt := 32) S.1 S.2.1 dX3_open_25 (by decide) (fun c_25 => ?_) (fun c_25 => ?_)
      · skip
        refine lv_iconst (v := (nI 0)) S.1 S.2.1 dX3_open_32 (by decide) ?_
        refine o_put S hG i_X3 tyX3_ok nmX3 (by decide) hM.1 rfl 0 (by decide) kf_29 rfl rfl rfl (Nat.le_of_ble_eq_true rfl) dX3_open_33 (fun H locs hG => ?_)
        obtain ⟨f_1, ef_1, hG⟩ := ov_name hG
        have hM := hM.u0 (cd2 := 0) ef_1
        have hO := hO.up ef_1 (by decide)
        refine lv_aload_n S.1 S.2.1 dX3_open_36 rfl (lv_at hl 1 rfl) ?_
        refine o_get S hG i_X3 (by decide) hM.1 rfl 0 (by decide) kf_29 rfl dX3_open_37 ?_
        refine lv_if_le (tgt := 45) S.1 S.2.1 dX3_open_40 (by decide) (fun c_40 => ?_) (fun c_40 => ?_)
        · skip
          refine lv_aload_n S.1 S.2.1 dX3_open_45 rfl (lv_at hl 1 rfl) ?_
          refine o_get S hG i_X3 (by decide) hM.1 rfl 4 (by decide) kf_19 rfl dX3_open_46 ?_
          refine lv_iload S.1 S.2.1 dX3_open_49 (lv_at hl 0 rfl) ?_
          refine lv_iconst (v := (nI 1)) S.1 S.2.1 dX3_open_51 (by decide) ?_
          refine o_zast S hG (j := z) (by decide) hM.2.2.2.2.1 (by omega) rfl dX3_open_52 (kk := fun H locs hG => ?_)
          obtain ⟨f_2, ef_2, hG⟩ := ov_name hG
          have hM := hM.uT (j := z) (b := true) ef_2
          have hO := hO.up ef_2 (by decide)
          refine lv_aload_n S.1 S.2.1 dX3_open_53 rfl (lv_at hl 1 rfl) ?_
          refine lv_iload_n S.1 S.2.1 dX3_open_54 rfl (lv_at hl 2 rfl) ?_
          refine lv_iload S.1 S.2.1 dX3_open_55 (lv_at hl 0 rfl) ?_
          refine o_cVv S (rest := []) (c_X3_copy l G ad s0 f_2 0 K V sz (va_up th z true) pl dn j z hM (by omega) (by omega) (by omega) hnj) (cwV 2 S.2.2.2.2 gX3_open_X3_copy rfl rfl rfl (by decide +kernel) ⟨(Nat.le_of_ble_eq_true rfl), (Nat.le_of_ble_eq_true rfl)⟩) hG (by decide) hM.1 rfl rfl hl.1 rfl (Nat.le_of_ble_eq_true rfl) dX3_open_57 ⟨(Nat.le_of_ble_eq_true rfl), (Nat.le_of_ble_eq_true rfl)⟩ (fun f9 H locs hp hG => ?_)
          obtain ⟨hO9, K2, V2, hM, hk9, hk8⟩ := hp
          have hO := hO.tr hO9
          have hnz : va_up sz z (sz j) z ≤ 600 := by rw [va_up_self]; exact hnj
          refine lv_aload_n S.1 S.2.1 dX3_open_60 rfl (lv_at hl 1 rfl) ?_
          refine o_get S hG i_X3 (by decide) hM.1 rfl 5 (by decide) kf_23 rfl dX3_open_61 ?_
          refine lv_iload S.1 S.2.1 dX3_open_64 (lv_at hl 0 rfl) ?_
          refine lv_bipush (v := (nI 13)) S.1 S.2.1 dX3_open_66 (by decide) ?_
          refine o_sub S (a := z) (b := 13) dX3_open_68 (by omega) ?_
          refine lv_iload_n S.1 S.2.1 dX3_open_69 rfl (lv_at hl 4 rfl) ?_
          refine b_if_eq S (b := dw) (tgt := 85) dX3_open_70 (by decide) (fun c_70 => ?_) (fun c_70 => ?_)
          · skip
            refine lv_aload_n S.1 S.2.1 dX3_open_85 rfl (lv_at hl 1 rfl) ?_
            refine lv_iload S.1 S.2.1 dX3_open_86 (lv_at hl 0 rfl) ?_
            refine lv_iload_n S.1 S.2.1 dX3_open_88 rfl (lv_at hl 3 rfl) ?_
            refine o_cVi S (rest := [.int (nI (z - 13)), .ref (ad 81)]) (c_X3_below l G ad s0 f9 0 K2 V2 (va_up sz z (sz j)) (va_up th z true) pl dn z key hM (by omega) (by omega)) (cwV 2 S.2.2.2.2 gX3_open_X3_below rfl rfl rfl (by decide +kernel) ⟨(Nat.le_of_ble_eq_true rfl), (Nat.le_of_ble_eq_true rfl)⟩) hG (by decide) hM.1 rfl rfl hl.1 rfl (Nat.le_of_ble_eq_true rfl) dX3_open_89 ⟨(Nat.le_of_ble_eq_true rfl), (Nat.le_of_ble_eq_true rfl)⟩ (fun r9 f9 H locs hp hG => ?_)
            obtain ⟨rfl, rfl⟩ := hp
            have lb_3 := bel_le ((va_up sz z (sz j)) z) (of K2 z) key
            refine o_top (zI_nat _).symm ?_
            refine o_iast S hG (j := z - 13) (by decide) hM.2.2.2.2.2.1 (by omega) dX3_open_92 (kk := fun H locs hG => ?_)
            obtain ⟨f_4, ef_4, hG⟩ := ov_name hG
            have hM := hM.uP (j := z - 13) (z := (bel (va_up sz z (sz j) z) (of K2 z) key : Int)) ef_4
            have hO := hO.up ef_4 (by decide)
            refine lv_aload_n S.1 S.2.1 dX3_open_93 rfl (lv_at hl 1 rfl) ?_
            refine o_get S hG i_X3 (by decide) hM.1 rfl 6 (by decide) kf_26 rfl dX3_open_94 ?_
            refine lv_iload S.1 S.2.1 dX3_open_97 (lv_at hl 0 rfl) ?_
            refine lv_bipush (v := (nI 13)) S.1 S.2.1 dX3_open_99 (by decide) ?_
            refine o_sub S (a := z) (b := 13) dX3_open_101 (by omega) ?_
            refine lv_iload_n S.1 S.2.1 dX3_open_102 rfl (lv_at hl 4 rfl) ?_
            refine o_zast S hG (j := z - 13) (by decide) hM.2.2.2.2.2.2 (by omega) (bI_nar _) dX3_open_103 (kk := fun H locs hG => ?_)
            obtain ⟨f_5, ef_5, hG⟩ := ov_name hG
            have hM := hM.uD (j := z - 13) (b := dw) ef_5
            have hO := hO.up ef_5 (by decide)
            refine lv_iload S.1 S.2.1 dX3_open_104 (lv_at hl 0 rfl) ?_
            refine lv_bipush (v := (nI 13)) S.1 S.2.1 dX3_open_106 (by decide) ?_
            refine o_sub S (a := z) (b := 13) dX3_open_108 (by omega) ?_
            exact ret _ _ _ _ _ _ _ _ hG ⟨hO, Or.inl ⟨j, hj2, rfl, hj3, Or.inl ⟨z, hz1, hz2, hz3, hz4, rfl, _, _, by rw [c_70] at hM ⊢; rw [va_up_self] at hM; exact hM, hk9, hk8⟩⟩⟩ rfl (Nat.le_of_ble_eq_true rfl) (Nat.le_of_ble_eq_true rfl) dX3_open_109
          · skip
            refine lv_aload_n S.1 S.2.1 dX3_open_73 rfl (lv_at hl 1 rfl) ?_
            refine lv_iload S.1 S.2.1 dX3_open_74 (lv_at hl 0 rfl) ?_
            refine lv_iload_n S.1 S.2.1 dX3_open_76 rfl (lv_at hl 3 rfl) ?_
            refine o_cVi S (rest := [.int (nI (z - 13)), .ref (ad 81)]) (c_X3_upTo l G ad s0 f9 0 K2 V2 (va_up sz z (sz j)) (va_up th z true) pl dn z key hM (by omega) (by omega)) (cwV 2 S.2.2.2.2 gX3_open_X3_upTo rfl rfl rfl (by decide +kernel) ⟨(Nat.le_of_ble_eq_true rfl), (Nat.le_of_ble_eq_true rfl)⟩) hG (by decide) hM.1 rfl rfl hl.1 rfl (Nat.le_of_ble_eq_true rfl) dX3_open_77 ⟨(Nat.le_of_ble_eq_true rfl), (Nat.le_of_ble_eq_true rfl)⟩ (fun r9 f9 H locs hp hG => ?_)
            obtain ⟨rfl, rfl⟩ := hp
            have lb_6 := upt_le ((va_up sz z (sz j)) z) (of K2 z) key (by omega)
            refine lv_iconst (v := (nI 1)) S.1 S.2.1 dX3_open_80 (by decide) ?_
            refine lv_isub S.1 S.2.1 dX3_open_81 ?_
            refine o_top (zI_pI _) ?_
            refine lv_goto (tgt := 92) S.1 S.2.1 dX3_open_82 (by decide) ?_
            refine o_iast S hG (j := z - 13) (by decide) hM.2.2.2.2.2.1 (by omega) dX3_open_92 (kk := fun H locs hG => ?_)
            obtain ⟨f_7, ef_7, hG⟩ := ov_name hG
            have hM := hM.uP (j := z - 13) (z := ((upt (va_up sz z (sz j) z) (of K2 z) key : Int) - 1)) ef_7
            have hO := hO.up ef_7 (by decide)
            refine lv_aload_n S.1 S.2.1 dX3_open_93 rfl (lv_at hl 1 rfl) ?_
            refine o_get S hG i_X3 (by decide) hM.1 rfl 6 (by decide) kf_26 rfl dX3_open_94 ?_
            refine lv_iload S.1 S.2.1 dX3_open_97 (lv_at hl 0 rfl) ?_
            refine lv_bipush (v := (nI 13)) S.1 S.2.1 dX3_open_99 (by decide) ?_
            refine o_sub S (a := z) (b := 13) dX3_open_101 (by omega) ?_
            refine lv_iload_n S.1 S.2.1 dX3_open_102 rfl (lv_at hl 4 rfl) ?_
            refine o_zast S hG (j := z - 13) (by decide) hM.2.2.2.2.2.2 (by omega) (bI_nar _) dX3_open_103 (kk := fun H locs hG => ?_)
            obtain ⟨f_8, ef_8, hG⟩ := ov_name hG
            have hM := hM.uD (j := z - 13) (b := dw) ef_8
            have hO := hO.up ef_8 (by decide)
            refine lv_iload S.1 S.2.1 dX3_open_104 (lv_at hl 0 rfl) ?_
            refine lv_bipush (v := (nI 13)) S.1 S.2.1 dX3_open_106 (by decide) ?_
            refine o_sub S (a := z) (b := 13) dX3_open_108 (by omega) ?_
            exact ret _ _ _ _ _ _ _ _ hG ⟨hO, Or.inl ⟨j, hj2, rfl, hj3, Or.inl ⟨z, hz1, hz2, hz3, hz4, rfl, _, _, by rw [c_70] at hM ⊢; rw [va_up_self] at hM; exact hM, hk9, hk8⟩⟩⟩ rfl (Nat.le_of_ble_eq_true rfl) (Nat.le_of_ble_eq_true rfl) dX3_open_109
        · skip
          exact absurd c_40 (by decide)
      · skip
        exact absurd (nI_pos' (by omega)) c_25
    · skip
      refine lv_iconst (v := (nI 1)) S.1 S.2.1 dX3_open_19 (by decide) ?_
      refine lv_goto (tgt := 33) S.1 S.2.1 dX3_open_20 (by decide) ?_
      refine o_put S hG i_X3 tyX3_ok nmX3 (by decide) hM.1 rfl 0 (by decide) kf_29 rfl rfl rfl (Nat.le_of_ble_eq_true rfl) dX3_open_33 (fun H locs hG => ?_)
      obtain ⟨f_9, ef_9, hG⟩ := ov_name hG
      have hM := hM.u0 (cd2 := 1) ef_9
      have hO := hO.up ef_9 (by decide)
      refine lv_aload_n S.1 S.2.1 dX3_open_36 rfl (lv_at hl 1 rfl) ?_
      refine o_get S hG i_X3 (by decide) hM.1 rfl 0 (by decide) kf_29 rfl dX3_open_37 ?_
      refine lv_if_le (tgt := 45) S.1 S.2.1 dX3_open_40 (by decide) (fun c_40 => ?_) (fun c_40 => ?_)
      · skip
        exact absurd c_40 (by decide)
      · skip
        refine lv_iconst (v := (nI 0)) S.1 S.2.1 dX3_open_43 (by decide) ?_
        exact ret _ _ _ _ _ _ _ _ hG ⟨hO, Or.inr ⟨c_16, hM⟩⟩ rfl (Nat.le_of_ble_eq_true rfl) (Nat.le_of_ble_eq_true rfl) dX3_open_44
  · skip
    refine lv_istore (lv' := [(4, .int (-1)), (0, .ref (ad 76)), (1, .int v), (2, .int key), (3, .int (bI dw))]) S.1 S.2.1 dX3_open_8 hl (by decide) rfl (fun ls hl => ?_)
    refine lv_aload_n S.1 S.2.1 dX3_open_10 rfl (lv_at hl 1 rfl) ?_
    refine lv_aload_n S.1 S.2.1 dX3_open_11 rfl (lv_at hl 1 rfl) ?_
    refine lv_iload_n S.1 S.2.1 dX3_open_12 rfl (lv_at hl 2 rfl) ?_
    refine o_cVi S (rest := [.ref (ad 76)]) (c_X3_isVersion l G ad s0 f cd K V sz th pl dn v hM ) (cwV 1 S.2.2.2.2 gX3_open_X3_isVersion rfl rfl rfl (by decide +kernel) ⟨(Nat.le_of_ble_eq_true rfl), (Nat.le_of_ble_eq_true rfl)⟩) hG (by decide) hM.1 rfl rfl hl.1 rfl (Nat.le_of_ble_eq_true rfl) dX3_open_13 ⟨(Nat.le_of_ble_eq_true rfl), (Nat.le_of_ble_eq_true rfl)⟩ (fun r9 f9 H locs hp hG => ?_)
    obtain ⟨rfl, rfl⟩ := hp
    refine b_if_ne S (b := (isv th v)) (tgt := 23) dX3_open_16 (by decide) (fun c_16 => ?_) (fun c_16 => ?_)
    · skip
      obtain ⟨j, hj2, rfl, hj3⟩ := isv_ex c_16
      have hnj := hW j (by omega) hj3
      refine lv_iload S.1 S.2.1 dX3_open_23 (lv_at hl 0 rfl) ?_
      refine lv_if_ge (tgt := 32) S.1 S.2.1 dX3_open_25 (by decide) (fun c_25 => ?_) (fun c_25 => ?_)
      · skip
        exact absurd c_25 (by decide)
      · skip
        refine lv_iconst (v := (nI 2)) S.1 S.2.1 dX3_open_28 (by decide) ?_
        refine lv_goto (tgt := 33) S.1 S.2.1 dX3_open_29 (by decide) ?_
        refine o_put S hG i_X3 tyX3_ok nmX3 (by decide) hM.1 rfl 0 (by decide) kf_29 rfl rfl rfl (Nat.le_of_ble_eq_true rfl) dX3_open_33 (fun H locs hG => ?_)
        obtain ⟨f_10, ef_10, hG⟩ := ov_name hG
        have hM := hM.u0 (cd2 := 2) ef_10
        have hO := hO.up ef_10 (by decide)
        refine lv_aload_n S.1 S.2.1 dX3_open_36 rfl (lv_at hl 1 rfl) ?_
        refine o_get S hG i_X3 (by decide) hM.1 rfl 0 (by decide) kf_29 rfl dX3_open_37 ?_
        refine lv_if_le (tgt := 45) S.1 S.2.1 dX3_open_40 (by decide) (fun c_40 => ?_) (fun c_40 => ?_)
        · skip
          exact absurd c_40 (by decide)
        · skip
          refine lv_iconst (v := (nI 0)) S.1 S.2.1 dX3_open_43 (by decide) ?_
          exact ret _ _ _ _ _ _ _ _ hG ⟨hO, Or.inl ⟨j, hj2, rfl, hj3, Or.inr ⟨hz5, hM⟩⟩⟩ rfl (Nat.le_of_ble_eq_true rfl) (Nat.le_of_ble_eq_true rfl) dX3_open_44
    · skip
      refine lv_iconst (v := (nI 1)) S.1 S.2.1 dX3_open_19 (by decide) ?_
      refine lv_goto (tgt := 33) S.1 S.2.1 dX3_open_20 (by decide) ?_
      refine o_put S hG i_X3 tyX3_ok nmX3 (by decide) hM.1 rfl 0 (by decide) kf_29 rfl rfl rfl (Nat.le_of_ble_eq_true rfl) dX3_open_33 (fun H locs hG => ?_)
      obtain ⟨f_11, ef_11, hG⟩ := ov_name hG
      have hM := hM.u0 (cd2 := 1) ef_11
      have hO := hO.up ef_11 (by decide)
      refine lv_aload_n S.1 S.2.1 dX3_open_36 rfl (lv_at hl 1 rfl) ?_
      refine o_get S hG i_X3 (by decide) hM.1 rfl 0 (by decide) kf_29 rfl dX3_open_37 ?_
      refine lv_if_le (tgt := 45) S.1 S.2.1 dX3_open_40 (by decide) (fun c_40 => ?_) (fun c_40 => ?_)
      · skip
        exact absurd c_40 (by decide)
      · skip
        refine lv_iconst (v := (nI 0)) S.1 S.2.1 dX3_open_43 (by decide) ?_
        exact ret _ _ _ _ _ _ _ _ hG ⟨hO, Or.inr ⟨c_16, hM⟩⟩ rfl (Nat.le_of_ble_eq_true rfl) (Nat.le_of_ble_eq_true rfl) dX3_open_44

theorem ld_s {kk vv : Nat → Int32} {i : Nat} {first step times more : Int32} (hk : ∀ z, z < i → kk z = first + nI z * step ∧ vv z = times * (first + nI z * step) + more) :
    ∀ z, z < i + 1 → upd kk i (first + nI i * step) z = first + nI z * step ∧ upd vv i (times * upd kk i (first + nI i * step) i + more) z = times * (first + nI z * step) + more := by
  intro z hz
  by_cases e : z = i
  · subst e; simp [upd]
  · simp only [upd, if_neg e]; exact hk z (by omega)
theorem ld_k {kk vv K V : Nat → Int32} {i : Nat} {x y : Int32} (hk : ∀ i, 600 ≤ i → kk i = K i ∧ vv i = V i) (hi : i < 600) : ∀ z, 600 ≤ z → upd kk i x z = K z ∧ upd vv i y z = V z := by
  intro z hz
  simp only [upd, if_neg (show ¬ z = i by omega)]; exact hk z hz

set_option maxHeartbeats 4000000 in
set_option maxRecDepth 100000 in
theorem c_X3_load (l : Launch) (G : Gx) (ad : Nat → Nat) (s0 : Nat) (f : Nat → va_E) (cd : Nat) (K V : Nat → Int32) (sz : Nat → Nat) (th : Nat → Bool) (pl : Nat → Int) (dn : Nat → Bool) (first step n times more : Int32) (hM : MB G ad f cd K V sz th pl dn) (hW : ∀ j, j < 21 → th j = true → sz j ≤ 600) (h00 : th 0 = true) : mI l yX3_load wsX3_load 0 0 0 0 [.ref (ad 76), .int first, .int step, .int n, .int times, .int more] G 84 ad s0 f (fun r f' => OnM f f' ∧ ((∃ w, w ≤ 600 ∧ n = nI w ∧ gld first step n = true ∧ r = nI (sz 0) ∧ ∃ K2 V2, MB G ad f' 0 K2 V2 (va_up sz 0 w) th pl dn ∧ (∀ z, z < w → K2 z = first + nI z * step ∧ V2 z = times * (first + nI z * step) + more) ∧ ∀ i, 600 ≤ i → K2 i = K i ∧ V2 i = V i) ∨ (gld first step n = false ∧ MB G ad f' 1 K V sz th pl dn))) := by
  refine ov_mI (cc := cX3_load) (maxL := 9) (ty := .int) (by decide) rfl (Nat.le_of_ble_eq_true rfl) ?_
  intro p e s m below meth c av Q S ret hG ls hl
  have S : CallFix p m c cX3_load 9 s av wsX3_load RX3 := S
  have hl : lv_has ls 9 [(0, .ref (ad 76)), (1, .int first), (2, .int step), (3, .int n), (4, .int times), (5, .int more)] := hl
  have i_X3 : ∀ w ∈ u_ws RX3 TX3 7, w ∈ wsX3_load := by decide +kernel
  have kf_7 := S.2.2.2.2 (.fieldLink RX3 7 "OrderedVersionsModel" "keys" "[I") (by decide +kernel)
  have kf_13 := S.2.2.2.2 (.fieldLink RX3 13 "OrderedVersionsModel" "values" "[I") (by decide +kernel)
  have kf_16 := S.2.2.2.2 (.fieldLink RX3 16 "OrderedVersionsModel" "sizes" "[I") (by decide +kernel)
  have kf_29 := S.2.2.2.2 (.fieldLink RX3 29 "OrderedVersionsModel" "code" "I") (by decide +kernel)
  have hO : OnM f f := OnM.rf
  refine lv_iload_n S.1 S.2.1 dX3_load_0 rfl (lv_at hl 3 rfl) ?_
  refine lv_if_lt (tgt := 20) S.1 S.2.1 dX3_load_1 (by decide) (fun c_1 => ?_) (fun c_1 => ?_)
  · skip
    refine lv_iconst (v := (nI 0)) S.1 S.2.1 dX3_load_20 (by decide) ?_
    refine lv_istore (lv' := [(6, .int (nI 0)), (0, .ref (ad 76)), (1, .int first), (2, .int step), (3, .int n), (4, .int times), (5, .int more)]) S.1 S.2.1 dX3_load_21 hl (by decide) rfl (fun ls hl => ?_)
    refine lv_iload S.1 S.2.1 dX3_load_23 (lv_at hl 0 rfl) ?_
    refine n_if_eq S (a := 0) (tgt := 53) dX3_load_25 (by decide) (by omega) (fun c_25 => ?_) (fun c_25 => ?_)
    · skip
      refine lv_iconst (v := (nI 0)) S.1 S.2.1 dX3_load_53 (by decide) ?_
      refine lv_istore (lv' := [(6, .int (nI 0)), (0, .ref (ad 76)), (1, .int first), (2, .int step), (3, .int n), (4, .int times), (5, .int more)]) S.1 S.2.1 dX3_load_54 hl (by decide) rfl (fun ls hl => ?_)
      refine lv_aload_n S.1 S.2.1 dX3_load_56 rfl (lv_at hl 1 rfl) ?_
      refine lv_iload S.1 S.2.1 dX3_load_57 (lv_at hl 0 rfl) ?_
      refine n_if_eq S (a := 0) (tgt := 66) dX3_load_59 (by decide) (by omega) (fun c_59 => ?_) (fun c_59 => ?_)
      · skip
        refine lv_iconst (v := (nI 1)) S.1 S.2.1 dX3_load_66 (by decide) ?_
        refine o_put S hG i_X3 tyX3_ok nmX3 (by decide) hM.1 rfl 0 (by decide) kf_29 rfl rfl rfl (Nat.le_of_ble_eq_true rfl) dX3_load_67 (fun H locs hG => ?_)
        obtain ⟨f_1, ef_1, hG⟩ := ov_name hG
        have hM := hM.u0 (cd2 := 1) ef_1
        have hO := hO.up ef_1 (by decide)
        refine lv_aload_n S.1 S.2.1 dX3_load_70 rfl (lv_at hl 1 rfl) ?_
        refine o_get S hG i_X3 (by decide) hM.1 rfl 0 (by decide) kf_29 rfl dX3_load_71 ?_
        refine lv_if_le (tgt := 79) S.1 S.2.1 dX3_load_74 (by decide) (fun c_74 => ?_) (fun c_74 => ?_)
        · skip
          exact absurd c_74 (by decide)
        · skip
          refine lv_iconst (v := (nI 0)) S.1 S.2.1 dX3_load_77 (by decide) ?_
          exact ret _ _ _ _ _ _ _ _ hG ⟨hO, Or.inr ⟨ld_f1 c_1, hM⟩⟩ rfl (Nat.le_of_ble_eq_true rfl) (Nat.le_of_ble_eq_true rfl) dX3_load_78
      · skip
        exact absurd c_59 (by decide)
    · skip
      exact absurd c_25 (by decide)
  · skip
    refine lv_iload_n S.1 S.2.1 dX3_load_4 rfl (lv_at hl 3 rfl) ?_
    refine lv_sipush (v := (nI 600)) S.1 S.2.1 dX3_load_5 (by decide) ?_
    refine lv_icmp_gt (tgt := 20) S.1 S.2.1 dX3_load_8 (by decide) (fun c_8 => ?_) (fun c_8 => ?_)
    · skip
      refine lv_iconst (v := (nI 0)) S.1 S.2.1 dX3_load_20 (by decide) ?_
      refine lv_istore (lv' := [(6, .int (nI 0)), (0, .ref (ad 76)), (1, .int first), (2, .int step), (3, .int n), (4, .int times), (5, .int more)]) S.1 S.2.1 dX3_load_21 hl (by decide) rfl (fun ls hl => ?_)
      refine lv_iload S.1 S.2.1 dX3_load_23 (lv_at hl 0 rfl) ?_
      refine n_if_eq S (a := 0) (tgt := 53) dX3_load_25 (by decide) (by omega) (fun c_25 => ?_) (fun c_25 => ?_)
      · skip
        refine lv_iconst (v := (nI 0)) S.1 S.2.1 dX3_load_53 (by decide) ?_
        refine lv_istore (lv' := [(6, .int (nI 0)), (0, .ref (ad 76)), (1, .int first), (2, .int step), (3, .int n), (4, .int times), (5, .int more)]) S.1 S.2.1 dX3_load_54 hl (by decide) rfl (fun ls hl => ?_)
        refine lv_aload_n S.1 S.2.1 dX3_load_56 rfl (lv_at hl 1 rfl) ?_
        refine lv_iload S.1 S.2.1 dX3_load_57 (lv_at hl 0 rfl) ?_
        refine n_if_eq S (a := 0) (tgt := 66) dX3_load_59 (by decide) (by omega) (fun c_59 => ?_) (fun c_59 => ?_)
        · skip
          refine lv_iconst (v := (nI 1)) S.1 S.2.1 dX3_load_66 (by decide) ?_
          refine o_put S hG i_X3 tyX3_ok nmX3 (by decide) hM.1 rfl 0 (by decide) kf_29 rfl rfl rfl (Nat.le_of_ble_eq_true rfl) dX3_load_67 (fun H locs hG => ?_)
          obtain ⟨f_2, ef_2, hG⟩ := ov_name hG
          have hM := hM.u0 (cd2 := 1) ef_2
          have hO := hO.up ef_2 (by decide)
          refine lv_aload_n S.1 S.2.1 dX3_load_70 rfl (lv_at hl 1 rfl) ?_
          refine o_get S hG i_X3 (by decide) hM.1 rfl 0 (by decide) kf_29 rfl dX3_load_71 ?_
          refine lv_if_le (tgt := 79) S.1 S.2.1 dX3_load_74 (by decide) (fun c_74 => ?_) (fun c_74 => ?_)
          · skip
            exact absurd c_74 (by decide)
          · skip
            refine lv_iconst (v := (nI 0)) S.1 S.2.1 dX3_load_77 (by decide) ?_
            exact ret _ _ _ _ _ _ _ _ hG ⟨hO, Or.inr ⟨ld_f2 c_8, hM⟩⟩ rfl (Nat.le_of_ble_eq_true rfl) (Nat.le_of_ble_eq_true rfl) dX3_load_78
        · skip
          exact absurd c_59 (by decide)
      · skip
        exact absurd c_25 (by decide)
    · skip
      obtain ⟨w, hw, rfl⟩ := v_ex (by decide) c_1 c_8
      refine lv_iload_n S.1 S.2.1 dX3_load_11 rfl (lv_at hl 2 rfl) ?_
      refine lv_iconst (v := (nI 1)) S.1 S.2.1 dX3_load_12 (by decide) ?_
      refine lv_icmp_lt (tgt := 20) S.1 S.2.1 dX3_load_13 (by decide) (fun c_13 => ?_) (fun c_13 => ?_)
      · skip
        refine lv_iconst (v := (nI 0)) S.1 S.2.1 dX3_load_20 (by decide) ?_
        refine lv_istore (lv' := [(6, .int (nI 0)), (0, .ref (ad 76)), (1, .int first), (2, .int step), (3, .int (nI w)), (4, .int times), (5, .int more)]) S.1 S.2.1 dX3_load_21 hl (by decide) rfl (fun ls hl => ?_)
        refine lv_iload S.1 S.2.1 dX3_load_23 (lv_at hl 0 rfl) ?_
        refine n_if_eq S (a := 0) (tgt := 53) dX3_load_25 (by decide) (by omega) (fun c_25 => ?_) (fun c_25 => ?_)
        · skip
          refine lv_iconst (v := (nI 0)) S.1 S.2.1 dX3_load_53 (by decide) ?_
          refine lv_istore (lv' := [(6, .int (nI 0)), (0, .ref (ad 76)), (1, .int first), (2, .int step), (3, .int (nI w)), (4, .int times), (5, .int more)]) S.1 S.2.1 dX3_load_54 hl (by decide) rfl (fun ls hl => ?_)
          refine lv_aload_n S.1 S.2.1 dX3_load_56 rfl (lv_at hl 1 rfl) ?_
          refine lv_iload S.1 S.2.1 dX3_load_57 (lv_at hl 0 rfl) ?_
          refine n_if_eq S (a := 0) (tgt := 66) dX3_load_59 (by decide) (by omega) (fun c_59 => ?_) (fun c_59 => ?_)
          · skip
            refine lv_iconst (v := (nI 1)) S.1 S.2.1 dX3_load_66 (by decide) ?_
            refine o_put S hG i_X3 tyX3_ok nmX3 (by decide) hM.1 rfl 0 (by decide) kf_29 rfl rfl rfl (Nat.le_of_ble_eq_true rfl) dX3_load_67 (fun H locs hG => ?_)
            obtain ⟨f_3, ef_3, hG⟩ := ov_name hG
            have hM := hM.u0 (cd2 := 1) ef_3
            have hO := hO.up ef_3 (by decide)
            refine lv_aload_n S.1 S.2.1 dX3_load_70 rfl (lv_at hl 1 rfl) ?_
            refine o_get S hG i_X3 (by decide) hM.1 rfl 0 (by decide) kf_29 rfl dX3_load_71 ?_
            refine lv_if_le (tgt := 79) S.1 S.2.1 dX3_load_74 (by decide) (fun c_74 => ?_) (fun c_74 => ?_)
            · skip
              exact absurd c_74 (by decide)
            · skip
              refine lv_iconst (v := (nI 0)) S.1 S.2.1 dX3_load_77 (by decide) ?_
              exact ret _ _ _ _ _ _ _ _ hG ⟨hO, Or.inr ⟨ld_f3 c_13, hM⟩⟩ rfl (Nat.le_of_ble_eq_true rfl) (Nat.le_of_ble_eq_true rfl) dX3_load_78
          · skip
            exact absurd c_59 (by decide)
        · skip
          exact absurd c_25 (by decide)
      · skip
        refine lv_iconst (v := (nI 1)) S.1 S.2.1 dX3_load_16 (by decide) ?_
        refine lv_goto (tgt := 21) S.1 S.2.1 dX3_load_17 (by decide) ?_
        refine lv_istore (lv' := [(6, .int (nI 1)), (0, .ref (ad 76)), (1, .int first), (2, .int step), (3, .int (nI w)), (4, .int times), (5, .int more)]) S.1 S.2.1 dX3_load_21 hl (by decide) rfl (fun ls hl => ?_)
        refine lv_iload S.1 S.2.1 dX3_load_23 (lv_at hl 0 rfl) ?_
        refine n_if_eq S (a := 1) (tgt := 53) dX3_load_25 (by decide) (by omega) (fun c_25 => ?_) (fun c_25 => ?_)
        · skip
          exact absurd c_25 (by decide)
        · skip
          refine lv_iload_n S.1 S.2.1 dX3_load_28 rfl (lv_at hl 4 rfl) ?_
          refine n_if_eq S (a := w) (tgt := 49) dX3_load_29 (by decide) (by omega) (fun c_29 => ?_) (fun c_29 => ?_)
          · skip
            refine lv_iconst (v := (nI 1)) S.1 S.2.1 dX3_load_49 (by decide) ?_
            refine lv_goto (tgt := 54) S.1 S.2.1 dX3_load_50 (by decide) ?_
            refine lv_istore (lv' := [(6, .int (nI 1)), (0, .ref (ad 76)), (1, .int first), (2, .int step), (3, .int (nI w)), (4, .int times), (5, .int more)]) S.1 S.2.1 dX3_load_54 hl (by decide) rfl (fun ls hl => ?_)
            refine lv_aload_n S.1 S.2.1 dX3_load_56 rfl (lv_at hl 1 rfl) ?_
            refine lv_iload S.1 S.2.1 dX3_load_57 (lv_at hl 0 rfl) ?_
            refine n_if_eq S (a := 1) (tgt := 66) dX3_load_59 (by decide) (by omega) (fun c_59 => ?_) (fun c_59 => ?_)
            · skip
              exact absurd c_59 (by decide)
            · skip
              refine lv_iconst (v := (nI 0)) S.1 S.2.1 dX3_load_62 (by decide) ?_
              refine lv_goto (tgt := 67) S.1 S.2.1 dX3_load_63 (by decide) ?_
              refine o_put S hG i_X3 tyX3_ok nmX3 (by decide) hM.1 rfl 0 (by decide) kf_29 rfl rfl rfl (Nat.le_of_ble_eq_true rfl) dX3_load_67 (fun H locs hG => ?_)
              obtain ⟨f_4, ef_4, hG⟩ := ov_name hG
              have hM := hM.u0 (cd2 := 0) ef_4
              have hO := hO.up ef_4 (by decide)
              refine lv_aload_n S.1 S.2.1 dX3_load_70 rfl (lv_at hl 1 rfl) ?_
              refine o_get S hG i_X3 (by decide) hM.1 rfl 0 (by decide) kf_29 rfl dX3_load_71 ?_
              refine lv_if_le (tgt := 79) S.1 S.2.1 dX3_load_74 (by decide) (fun c_74 => ?_) (fun c_74 => ?_)
              · skip
                refine lv_aload_n S.1 S.2.1 dX3_load_79 rfl (lv_at hl 1 rfl) ?_
                refine o_get S hG i_X3 (by decide) hM.1 rfl 3 (by decide) kf_16 rfl dX3_load_80 ?_
                refine lv_iconst (v := (nI 0)) S.1 S.2.1 dX3_load_83 (by decide) ?_
                refine o_iald S hG (j := 0) (by decide) hM.2.2.2.1 (by omega) dX3_load_84 (kk := ?_)
                refine lv_istore (lv' := [(7, .int (nI (sz 0))), (6, .int (nI 1)), (0, .ref (ad 76)), (1, .int first), (2, .int step), (3, .int (nI w)), (4, .int times), (5, .int more)]) S.1 S.2.1 dX3_load_85 hl (by decide) rfl (fun ls hl => ?_)
                refine lv_iconst (v := (nI 0)) S.1 S.2.1 dX3_load_87 (by decide) ?_
                refine lv_istore (lv' := [(8, .int (nI 0)), (7, .int (nI (sz 0))), (6, .int (nI 1)), (0, .ref (ad 76)), (1, .int first), (2, .int step), (3, .int (nI w)), (4, .int times), (5, .int more)]) S.1 S.2.1 dX3_load_88 hl (by decide) rfl (fun ls hl => ?_)
                have L_90 : ∀ (d9 : Nat) (i : Nat) (kk : Nat → Int32) (vv : Nat → Int32) (f2 : Nat → va_E) (H : Heap) (locs : List Loc), (MB G ad f2 0 kk vv sz th pl dn) → (OnM f f2) → (i ≤ w) → (∀ z, z < i → kk z = first + nI z * step ∧ vv z = times * (first + nI z * step) + more) → (∀ i, 600 ≤ i → kk i = K i ∧ vv i = V i) → (w - i) < d9 → ov_dy G 84 ad s0 s f2 H locs → ∀ ls : Array Slot, lv_has ls 9 [(0, .ref (ad 76)), (1, .int first), (2, .int step), (3, .int (nI w)), (4, .int times), (5, .int more), (7, .int (nI (sz 0))), (8, .int (nI i))] → W p l e (ov_rm 0 0 0 0) s m av below meth c H locs 0 0 Q (F0 m 90 ls []) := by
                  intro d9
                  induction d9 with
                  | zero => intro i kk vv f2 H locs hM hO hi hk hk8 h9; exact absurd h9 (Nat.not_lt_zero _)
                  | succ d9 ih_90 =>
                    intro i kk vv f2 H locs hM hO hi hk hk8 h9 hG ls hl
                    refine lv_iload S.1 S.2.1 dX3_load_90 (lv_at hl 7 rfl) ?_
                    refine lv_iload_n S.1 S.2.1 dX3_load_92 rfl (lv_at hl 3 rfl) ?_
                    refine n_ge S (a := i) (b := w) (tgt := 135) dX3_load_93 (by decide) (by omega) (by omega) (fun c_93 => ?_) (fun c_93 => ?_)
                    · skip
                      refine lv_aload_n S.1 S.2.1 dX3_load_135 rfl (lv_at hl 0 rfl) ?_
                      refine o_get S hG i_X3 (by decide) hM.1 rfl 3 (by decide) kf_16 rfl dX3_load_136 ?_
                      refine lv_iconst (v := (nI 0)) S.1 S.2.1 dX3_load_139 (by decide) ?_
                      refine lv_iload_n S.1 S.2.1 dX3_load_140 rfl (lv_at hl 3 rfl) ?_
                      refine o_iast S hG (j := 0) (by decide) hM.2.2.2.1 (by omega) dX3_load_141 (kk := fun H locs hG => ?_)
                      obtain ⟨f_5, ef_5, hG⟩ := ov_name hG
                      have hM := hM.uZ (j := 0) (n := w) ef_5
                      have hO := hO.up ef_5 (by decide)
                      refine lv_iload S.1 S.2.1 dX3_load_142 (lv_at hl 6 rfl) ?_
                      exact ret _ _ _ _ _ _ _ _ hG ⟨hO, Or.inl ⟨w, hw, rfl, ld_t hw c_13 (Or.inl c_29), rfl, _, _, hM, fun z hz => hk z (by omega), hk8⟩⟩ rfl (Nat.le_of_ble_eq_true rfl) (Nat.le_of_ble_eq_true rfl) dX3_load_144
                    · skip
                      refine lv_aload_n S.1 S.2.1 dX3_load_96 rfl (lv_at hl 0 rfl) ?_
                      refine o_get S hG i_X3 (by decide) hM.1 rfl 1 (by decide) kf_7 rfl dX3_load_97 ?_
                      refine lv_iload S.1 S.2.1 dX3_load_100 (lv_at hl 7 rfl) ?_
                      refine lv_iload_n S.1 S.2.1 dX3_load_102 rfl (lv_at hl 1 rfl) ?_
                      refine lv_iload S.1 S.2.1 dX3_load_103 (lv_at hl 7 rfl) ?_
                      refine lv_iload_n S.1 S.2.1 dX3_load_105 rfl (lv_at hl 2 rfl) ?_
                      refine lv_imul S.1 S.2.1 dX3_load_106 ?_
                      refine lv_iadd S.1 S.2.1 dX3_load_107 ?_
                      refine o_iast S hG (j := i) (by decide) hM.2.1 (by omega) dX3_load_108 (kk := fun H locs hG => ?_)
                      obtain ⟨f_6, ef_6, hG⟩ := ov_name hG
                      have hM := hM.uK ef_6
                      have hO := hO.up ef_6 (by decide)
                      refine lv_aload_n S.1 S.2.1 dX3_load_109 rfl (lv_at hl 0 rfl) ?_
                      refine o_get S hG i_X3 (by decide) hM.1 rfl 2 (by decide) kf_13 rfl dX3_load_110 ?_
                      refine lv_iload S.1 S.2.1 dX3_load_113 (lv_at hl 7 rfl) ?_
                      refine lv_iload S.1 S.2.1 dX3_load_115 (lv_at hl 4 rfl) ?_
                      refine lv_aload_n S.1 S.2.1 dX3_load_117 rfl (lv_at hl 0 rfl) ?_
                      refine o_get S hG i_X3 (by decide) hM.1 rfl 1 (by decide) kf_7 rfl dX3_load_118 ?_
                      refine lv_iload S.1 S.2.1 dX3_load_121 (lv_at hl 7 rfl) ?_
                      refine o_iald S hG (j := i) (by decide) hM.2.1 (by omega) dX3_load_123 (kk := ?_)
                      refine lv_imul S.1 S.2.1 dX3_load_124 ?_
                      refine lv_iload S.1 S.2.1 dX3_load_125 (lv_at hl 5 rfl) ?_
                      refine lv_iadd S.1 S.2.1 dX3_load_127 ?_
                      refine o_iast S hG (j := i) (by decide) hM.2.2.1 (by omega) dX3_load_128 (kk := fun H locs hG => ?_)
                      obtain ⟨f_7, ef_7, hG⟩ := ov_name hG
                      have hM := hM.uV ef_7
                      have hO := hO.up ef_7 (by decide)
                      refine lv_iinc (v := (nI (i + 1))) (lv' := [(8, .int (nI (i + 1))), (0, .ref (ad 76)), (1, .int first), (2, .int step), (3, .int (nI w)), (4, .int times), (5, .int more), (7, .int (nI (sz 0)))]) S.1 S.2.1 dX3_load_129 hl (k := 7) rfl (nI_add i 1) (by decide) rfl (fun ls hl => ?_)
                      refine lv_goto (tgt := 90) S.1 S.2.1 dX3_load_132 (by decide) ?_
                      exact ih_90 (i + 1) (upd kk i (first + ((nI i) * step))) (upd vv i ((times * ((upd kk i (first + ((nI i) * step))) i)) + more)) f_7 _ _ hM hO (by omega) (ld_s hk) (ld_k hk8 (by omega)) (by omega) hG ls (lv_sub hl [1, 2, 3, 4, 5, 6, 7, 0] rfl)
                exact L_90 _ 0 K V f_4 _ _ hM hO (Nat.zero_le _) (fun z h => absurd h (Nat.not_lt_zero _)) (fun _ _ => ⟨rfl, rfl⟩) (Nat.lt_succ_self _) hG ls (lv_sub hl [3, 4, 5, 6, 7, 8, 1, 0] rfl)
              · skip
                exact absurd c_74 (by decide)
          · skip
            refine lv_iload_n S.1 S.2.1 dX3_load_32 rfl (lv_at hl 2 rfl) ?_
            refine lv_i2l (v := first.toInt64) S.1 S.2.1 dX3_load_33 rfl ?_
            refine lv_iload_n S.1 S.2.1 dX3_load_34 rfl (lv_at hl 4 rfl) ?_
            refine lv_i2l (v := (nI w).toInt64) S.1 S.2.1 dX3_load_35 rfl ?_
            refine lv_lconst (v := lN 1) S.1 S.2.1 dX3_load_36 (by decide) ?_
            refine lv_lsub S.1 S.2.1 dX3_load_37 ?_
            refine lv_iload_n S.1 S.2.1 dX3_load_38 rfl (lv_at hl 3 rfl) ?_
            refine lv_i2l (v := step.toInt64) S.1 S.2.1 dX3_load_39 rfl ?_
            refine lv_lmul S.1 S.2.1 dX3_load_40 ?_
            refine lv_ladd S.1 S.2.1 dX3_load_41 ?_
            refine lv_ldc2 S.1 S.2.1 S.2.2.2.1 (S.2.2.2.2 (.constantLong RX3 52 (2147483647)) (by decide +kernel)) dX3_load_42 ?_
            refine W.lcmp S.1 S.2.1 dX3_load_45 ?_
            refine lv_if_gt (tgt := 53) S.1 S.2.1 dX3_load_46 (by decide) (fun c_46 => ?_) (fun c_46 => ?_)
            · skip
              refine lv_iconst (v := (nI 0)) S.1 S.2.1 dX3_load_53 (by decide) ?_
              refine lv_istore (lv' := [(6, .int (nI 0)), (0, .ref (ad 76)), (1, .int first), (2, .int step), (3, .int (nI w)), (4, .int times), (5, .int more)]) S.1 S.2.1 dX3_load_54 hl (by decide) rfl (fun ls hl => ?_)
              refine lv_aload_n S.1 S.2.1 dX3_load_56 rfl (lv_at hl 1 rfl) ?_
              refine lv_iload S.1 S.2.1 dX3_load_57 (lv_at hl 0 rfl) ?_
              refine n_if_eq S (a := 0) (tgt := 66) dX3_load_59 (by decide) (by omega) (fun c_59 => ?_) (fun c_59 => ?_)
              · skip
                refine lv_iconst (v := (nI 1)) S.1 S.2.1 dX3_load_66 (by decide) ?_
                refine o_put S hG i_X3 tyX3_ok nmX3 (by decide) hM.1 rfl 0 (by decide) kf_29 rfl rfl rfl (Nat.le_of_ble_eq_true rfl) dX3_load_67 (fun H locs hG => ?_)
                obtain ⟨f_8, ef_8, hG⟩ := ov_name hG
                have hM := hM.u0 (cd2 := 1) ef_8
                have hO := hO.up ef_8 (by decide)
                refine lv_aload_n S.1 S.2.1 dX3_load_70 rfl (lv_at hl 1 rfl) ?_
                refine o_get S hG i_X3 (by decide) hM.1 rfl 0 (by decide) kf_29 rfl dX3_load_71 ?_
                refine lv_if_le (tgt := 79) S.1 S.2.1 dX3_load_74 (by decide) (fun c_74 => ?_) (fun c_74 => ?_)
                · skip
                  exact absurd c_74 (by decide)
                · skip
                  refine lv_iconst (v := (nI 0)) S.1 S.2.1 dX3_load_77 (by decide) ?_
                  exact ret _ _ _ _ _ _ _ _ hG ⟨hO, Or.inr ⟨ld_f4 hw c_29 ((lg_cmp_gt _ _).mp c_46), hM⟩⟩ rfl (Nat.le_of_ble_eq_true rfl) (Nat.le_of_ble_eq_true rfl) dX3_load_78
              · skip
                exact absurd c_59 (by decide)
            · skip
              refine lv_iconst (v := (nI 1)) S.1 S.2.1 dX3_load_49 (by decide) ?_
              refine lv_goto (tgt := 54) S.1 S.2.1 dX3_load_50 (by decide) ?_
              refine lv_istore (lv' := [(6, .int (nI 1)), (0, .ref (ad 76)), (1, .int first), (2, .int step), (3, .int (nI w)), (4, .int times), (5, .int more)]) S.1 S.2.1 dX3_load_54 hl (by decide) rfl (fun ls hl => ?_)
              refine lv_aload_n S.1 S.2.1 dX3_load_56 rfl (lv_at hl 1 rfl) ?_
              refine lv_iload S.1 S.2.1 dX3_load_57 (lv_at hl 0 rfl) ?_
              refine n_if_eq S (a := 1) (tgt := 66) dX3_load_59 (by decide) (by omega) (fun c_59 => ?_) (fun c_59 => ?_)
              · skip
                exact absurd c_59 (by decide)
              · skip
                refine lv_iconst (v := (nI 0)) S.1 S.2.1 dX3_load_62 (by decide) ?_
                refine lv_goto (tgt := 67) S.1 S.2.1 dX3_load_63 (by decide) ?_
                refine o_put S hG i_X3 tyX3_ok nmX3 (by decide) hM.1 rfl 0 (by decide) kf_29 rfl rfl rfl (Nat.le_of_ble_eq_true rfl) dX3_load_67 (fun H locs hG => ?_)
                obtain ⟨f_9, ef_9, hG⟩ := ov_name hG
                have hM := hM.u0 (cd2 := 0) ef_9
                have hO := hO.up ef_9 (by decide)
                refine lv_aload_n S.1 S.2.1 dX3_load_70 rfl (lv_at hl 1 rfl) ?_
                refine o_get S hG i_X3 (by decide) hM.1 rfl 0 (by decide) kf_29 rfl dX3_load_71 ?_
                refine lv_if_le (tgt := 79) S.1 S.2.1 dX3_load_74 (by decide) (fun c_74 => ?_) (fun c_74 => ?_)
                · skip
                  refine lv_aload_n S.1 S.2.1 dX3_load_79 rfl (lv_at hl 1 rfl) ?_
                  refine o_get S hG i_X3 (by decide) hM.1 rfl 3 (by decide) kf_16 rfl dX3_load_80 ?_
                  refine lv_iconst (v := (nI 0)) S.1 S.2.1 dX3_load_83 (by decide) ?_
                  refine o_iald S hG (j := 0) (by decide) hM.2.2.2.1 (by omega) dX3_load_84 (kk := ?_)
                  refine lv_istore (lv' := [(7, .int (nI (sz 0))), (6, .int (nI 1)), (0, .ref (ad 76)), (1, .int first), (2, .int step), (3, .int (nI w)), (4, .int times), (5, .int more)]) S.1 S.2.1 dX3_load_85 hl (by decide) rfl (fun ls hl => ?_)
                  refine lv_iconst (v := (nI 0)) S.1 S.2.1 dX3_load_87 (by decide) ?_
                  refine lv_istore (lv' := [(8, .int (nI 0)), (7, .int (nI (sz 0))), (6, .int (nI 1)), (0, .ref (ad 76)), (1, .int first), (2, .int step), (3, .int (nI w)), (4, .int times), (5, .int more)]) S.1 S.2.1 dX3_load_88 hl (by decide) rfl (fun ls hl => ?_)
                  have L_90 : ∀ (d9 : Nat) (i : Nat) (kk : Nat → Int32) (vv : Nat → Int32) (f2 : Nat → va_E) (H : Heap) (locs : List Loc), (MB G ad f2 0 kk vv sz th pl dn) → (OnM f f2) → (i ≤ w) → (∀ z, z < i → kk z = first + nI z * step ∧ vv z = times * (first + nI z * step) + more) → (∀ i, 600 ≤ i → kk i = K i ∧ vv i = V i) → (w - i) < d9 → ov_dy G 84 ad s0 s f2 H locs → ∀ ls : Array Slot, lv_has ls 9 [(0, .ref (ad 76)), (1, .int first), (2, .int step), (3, .int (nI w)), (4, .int times), (5, .int more), (7, .int (nI (sz 0))), (8, .int (nI i))] → W p l e (ov_rm 0 0 0 0) s m av below meth c H locs 0 0 Q (F0 m 90 ls []) := by
                    intro d9
                    induction d9 with
                    | zero => intro i kk vv f2 H locs hM hO hi hk hk8 h9; exact absurd h9 (Nat.not_lt_zero _)
                    | succ d9 ih_90 =>
                      intro i kk vv f2 H locs hM hO hi hk hk8 h9 hG ls hl
                      refine lv_iload S.1 S.2.1 dX3_load_90 (lv_at hl 7 rfl) ?_
                      refine lv_iload_n S.1 S.2.1 dX3_load_92 rfl (lv_at hl 3 rfl) ?_
                      refine n_ge S (a := i) (b := w) (tgt := 135) dX3_load_93 (by decide) (by omega) (by omega) (fun c_93 => ?_) (fun c_93 => ?_)
                      · skip
                        refine lv_aload_n S.1 S.2.1 dX3_load_135 rfl (lv_at hl 0 rfl) ?_
                        refine o_get S hG i_X3 (by decide) hM.1 rfl 3 (by decide) kf_16 rfl dX3_load_136 ?_
                        refine lv_iconst (v := (nI 0)) S.1 S.2.1 dX3_load_139 (by decide) ?_
                        refine lv_iload_n S.1 S.2.1 dX3_load_140 rfl (lv_at hl 3 rfl) ?_
                        refine o_iast S hG (j := 0) (by decide) hM.2.2.2.1 (by omega) dX3_load_141 (kk := fun H locs hG => ?_)
                        obtain ⟨f_10, ef_10, hG⟩ := ov_name hG
                        have hM := hM.uZ (j := 0) (n := w) ef_10
                        have hO := hO.up ef_10 (by decide)
                        refine lv_iload S.1 S.2.1 dX3_load_142 (lv_at hl 6 rfl) ?_
                        exact ret _ _ _ _ _ _ _ _ hG ⟨hO, Or.inl ⟨w, hw, rfl, ld_t hw c_13 (Or.inr (fun h => c_46 ((lg_cmp_gt _ _).mpr h))), rfl, _, _, hM, fun z hz => hk z (by omega), hk8⟩⟩ rfl (Nat.le_of_ble_eq_true rfl) (Nat.le_of_ble_eq_true rfl) dX3_load_144
                      · skip
                        refine lv_aload_n S.1 S.2.1 dX3_load_96 rfl (lv_at hl 0 rfl) ?_
                        refine o_get S hG i_X3 (by decide) hM.1 rfl 1 (by decide) kf_7 rfl dX3_load_97 ?_
                        refine lv_iload S.1 S.2.1 dX3_load_100 (lv_at hl 7 rfl) ?_
                        refine lv_iload_n S.1 S.2.1 dX3_load_102 rfl (lv_at hl 1 rfl) ?_
                        refine lv_iload S.1 S.2.1 dX3_load_103 (lv_at hl 7 rfl) ?_
                        refine lv_iload_n S.1 S.2.1 dX3_load_105 rfl (lv_at hl 2 rfl) ?_
                        refine lv_imul S.1 S.2.1 dX3_load_106 ?_
                        refine lv_iadd S.1 S.2.1 dX3_load_107 ?_
                        refine o_iast S hG (j := i) (by decide) hM.2.1 (by omega) dX3_load_108 (kk := fun H locs hG => ?_)
                        obtain ⟨f_11, ef_11, hG⟩ := ov_name hG
                        have hM := hM.uK ef_11
                        have hO := hO.up ef_11 (by decide)
                        refine lv_aload_n S.1 S.2.1 dX3_load_109 rfl (lv_at hl 0 rfl) ?_
                        refine o_get S hG i_X3 (by decide) hM.1 rfl 2 (by decide) kf_13 rfl dX3_load_110 ?_
                        refine lv_iload S.1 S.2.1 dX3_load_113 (lv_at hl 7 rfl) ?_
                        refine lv_iload S.1 S.2.1 dX3_load_115 (lv_at hl 4 rfl) ?_
                        refine lv_aload_n S.1 S.2.1 dX3_load_117 rfl (lv_at hl 0 rfl) ?_
                        refine o_get S hG i_X3 (by decide) hM.1 rfl 1 (by decide) kf_7 rfl dX3_load_118 ?_
                        refine lv_iload S.1 S.2.1 dX3_load_121 (lv_at hl 7 rfl) ?_
                        refine o_iald S hG (j := i) (by decide) hM.2.1 (by omega) dX3_load_123 (kk := ?_)
                        refine lv_imul S.1 S.2.1 dX3_load_124 ?_
                        refine lv_iload S.1 S.2.1 dX3_load_125 (lv_at hl 5 rfl) ?_
                        refine lv_iadd S.1 S.2.1 dX3_load_127 ?_
                        refine o_iast S hG (j := i) (by decide) hM.2.2.1 (by omega) dX3_load_128 (kk := fun H locs hG => ?_)
                        obtain ⟨f_12, ef_12, hG⟩ := ov_name hG
                        have hM := hM.uV ef_12
                        have hO := hO.up ef_12 (by decide)
                        refine lv_iinc (v := (nI (i + 1))) (lv' := [(8, .int (nI (i + 1))), (0, .ref (ad 76)), (1, .int first), (2, .int step), (3, .int (nI w)), (4, .int times), (5, .int more), (7, .int (nI (sz 0)))]) S.1 S.2.1 dX3_load_129 hl (k := 7) rfl (nI_add i 1) (by decide) rfl (fun ls hl => ?_)
                        refine lv_goto (tgt := 90) S.1 S.2.1 dX3_load_132 (by decide) ?_
                        exact ih_90 (i + 1) (upd kk i (first + ((nI i) * step))) (upd vv i ((times * ((upd kk i (first + ((nI i) * step))) i)) + more)) f_12 _ _ hM hO (by omega) (ld_s hk) (ld_k hk8 (by omega)) (by omega) hG ls (lv_sub hl [1, 2, 3, 4, 5, 6, 7, 0] rfl)
                  exact L_90 _ 0 K V f_9 _ _ hM hO (Nat.zero_le _) (fun z h => absurd h (Nat.not_lt_zero _)) (fun _ _ => ⟨rfl, rfl⟩) (Nat.lt_succ_self _) hG ls (lv_sub hl [3, 4, 5, 6, 7, 8, 1, 0] rfl)
                · skip
                  exact absurd c_74 (by decide)

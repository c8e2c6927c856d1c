set_option maxHeartbeats 4000000 in
set_option maxRecDepth 100000 in
theorem c_X3_near (l : Launch) (G : Gx) (ad : Nat → Nat) (s0 : Nat) (f : Nat → va_E) (cd : Nat) (K V : Nat → Int32) (sz : Nat → Nat) (th : Nat → Bool) (pl : Nat → Int) (dn : Nat → Bool) (v key : Int32) (ab : Bool) (hM : MB G ad f cd K V sz th pl dn) (hW : ∀ j, j < 21 → th j = true → sz j ≤ 600) (h00 : th 0 = true) : mI l yX3_near wsX3_near 3 68 0 0 [.ref (ad 76), .int v, .int key, .int (bI ab)] G 84 ad s0 f (fun r f' => OnM f f' ∧ ((∃ j, j ≤ 12 ∧ v = nI j ∧ th j = true ∧ ((∃ i, i < sz j ∧ nea (sz j) (of K j) key ab = nI i ∧ r = of K j i ∧ MB G ad f' 0 K V sz th pl dn) ∨ (wi (sz j) (nea (sz j) (of K j) key ab) = false ∧ MB G ad f' 2 K V sz th pl dn))) ∨ (isv th v = false ∧ MB G ad f' 1 K V sz th pl dn))) := by
  refine ov_mI (cc := cX3_near) (maxL := 5) (ty := .int) (by decide) rfl (Nat.le_of_ble_eq_true rfl) ?_
  intro p e s m below meth c av Q S ret hG ls hl
  have S : CallFix p m c cX3_near 5 s av wsX3_near RX3 := S
  have hl : lv_has ls 5 [(0, .ref (ad 76)), (1, .int v), (2, .int key), (3, .int (bI ab))] := hl
  have i_X3 : ∀ w ∈ u_ws RX3 TX3 7, w ∈ wsX3_near := by decide +kernel
  have kf_7 := S.2.2.2.2 (.fieldLink RX3 7 "OrderedVersionsModel" "keys" "[I") (by decide +kernel)
  have kf_16 := S.2.2.2.2 (.fieldLink RX3 16 "OrderedVersionsModel" "sizes" "[I") (by decide +kernel)
  have kf_29 := S.2.2.2.2 (.fieldLink RX3 29 "OrderedVersionsModel" "code" "I") (by decide +kernel)
  have hO : OnM f f := OnM.rf
  refine lv_aload_n S.1 S.2.1 dX3_near_0 rfl (lv_at hl 0 rfl) ?_
  refine lv_aload_n S.1 S.2.1 dX3_near_1 rfl (lv_at hl 0 rfl) ?_
  refine lv_iload_n S.1 S.2.1 dX3_near_2 rfl (lv_at hl 1 rfl) ?_
  refine o_cVi S (rest := [.ref (ad 76)]) (c_X3_isVersion l G ad s0 f cd K V sz th pl dn v hM ) (cwV 1 S.2.2.2.2 gX3_near_X3_isVersion rfl rfl rfl (by decide +kernel) ⟨(Nat.le_of_ble_eq_true rfl), (Nat.le_of_ble_eq_true rfl)⟩) hG (by decide) hM.1 rfl rfl hl.1 rfl (Nat.le_of_ble_eq_true rfl) dX3_near_3 ⟨(Nat.le_of_ble_eq_true rfl), (Nat.le_of_ble_eq_true rfl)⟩ (fun r9 f9 H locs hp hG => ?_)
  obtain ⟨rfl, rfl⟩ := hp
  refine b_if_eq S (b := (isv th v)) (tgt := 13) dX3_near_6 (by decide) (fun c_6 => ?_) (fun c_6 => ?_)
  · skip
    refine lv_iconst (v := (nI 1)) S.1 S.2.1 dX3_near_13 (by decide) ?_
    refine o_put S hG i_X3 tyX3_ok nmX3 (by decide) hM.1 rfl 0 (by decide) kf_29 rfl rfl rfl (Nat.le_of_ble_eq_true rfl) dX3_near_14 (fun H locs hG => ?_)
    obtain ⟨f_1, ef_1, hG⟩ := ov_name hG
    have hM := hM.u0 (cd2 := 1) ef_1
    have hO := hO.up ef_1 (by decide)
    refine lv_aload_n S.1 S.2.1 dX3_near_17 rfl (lv_at hl 0 rfl) ?_
    refine o_get S hG i_X3 (by decide) hM.1 rfl 0 (by decide) kf_29 rfl dX3_near_18 ?_
    refine lv_if_le (tgt := 26) S.1 S.2.1 dX3_near_21 (by decide) (fun c_21 => ?_) (fun c_21 => ?_)
    · skip
      exact absurd c_21 (by decide)
    · skip
      refine lv_iconst (v := (nI 0)) S.1 S.2.1 dX3_near_24 (by decide) ?_
      exact ret _ _ _ _ _ _ _ _ hG ⟨hO, Or.inr ⟨c_6, hM⟩⟩ rfl (Nat.le_of_ble_eq_true rfl) (Nat.le_of_ble_eq_true rfl) dX3_near_25
  · skip
    obtain ⟨j, hj2, rfl, hj3⟩ := isv_ex c_6
    have hnj := hW j (by omega) hj3
    refine lv_iconst (v := (nI 0)) S.1 S.2.1 dX3_near_9 (by decide) ?_
    refine lv_goto (tgt := 14) S.1 S.2.1 dX3_near_10 (by decide) ?_
    refine o_put S hG i_X3 tyX3_ok nmX3 (by decide) hM.1 rfl 0 (by decide) kf_29 rfl rfl rfl (Nat.le_of_ble_eq_true rfl) dX3_near_14 (fun H locs hG => ?_)
    obtain ⟨f_2, ef_2, hG⟩ := ov_name hG
    have hM := hM.u0 (cd2 := 0) ef_2
    have hO := hO.up ef_2 (by decide)
    refine lv_aload_n S.1 S.2.1 dX3_near_17 rfl (lv_at hl 0 rfl) ?_
    refine o_get S hG i_X3 (by decide) hM.1 rfl 0 (by decide) kf_29 rfl dX3_near_18 ?_
    refine lv_if_le (tgt := 26) S.1 S.2.1 dX3_near_21 (by decide) (fun c_21 => ?_) (fun c_21 => ?_)
    · skip
      refine lv_iload_n S.1 S.2.1 dX3_near_26 rfl (lv_at hl 3 rfl) ?_
      refine b_if_eq S (b := ab) (tgt := 39) dX3_near_27 (by decide) (fun c_27 => ?_) (fun c_27 => ?_)
      · skip
        refine lv_aload_n S.1 S.2.1 dX3_near_39 rfl (lv_at hl 0 rfl) ?_
        refine lv_iload_n S.1 S.2.1 dX3_near_40 rfl (lv_at hl 1 rfl) ?_
        refine lv_iload_n S.1 S.2.1 dX3_near_41 rfl (lv_at hl 2 rfl) ?_
        refine o_cVi S (rest := []) (c_X3_upTo l G ad s0 f_2 0 K V sz th pl dn j key hM (by omega) (by omega)) (cwV 2 S.2.2.2.2 gX3_near_X3_upTo rfl rfl rfl (by decide +kernel) ⟨(Nat.le_of_ble_eq_true rfl), (Nat.le_of_ble_eq_true rfl)⟩) hG (by decide) hM.1 rfl rfl hl.1 rfl (Nat.le_of_ble_eq_true rfl) dX3_near_42 ⟨(Nat.le_of_ble_eq_true rfl), (Nat.le_of_ble_eq_true rfl)⟩ (fun r9 f9 H locs hp hG => ?_)
        obtain ⟨rfl, rfl⟩ := hp
        have lb_3 := upt_le (sz j) (of K j) key (by omega)
        refine lv_iconst (v := (nI 1)) S.1 S.2.1 dX3_near_45 (by decide) ?_
        refine lv_isub S.1 S.2.1 dX3_near_46 ?_
        refine o_top (show _ = nea (sz j) (of K j) key ab from by rw [c_27]; rfl) ?_
        refine lv_istore (lv' := [(4, .int (nea (sz j) (of K j) key ab)), (0, .ref (ad 76)), (1, .int (nI j)), (2, .int key), (3, .int (bI ab))]) S.1 S.2.1 dX3_near_47 hl (by decide) rfl (fun ls hl => ?_)
        refine lv_aload_n S.1 S.2.1 dX3_near_49 rfl (lv_at hl 1 rfl) ?_
        refine lv_iload S.1 S.2.1 dX3_near_50 (lv_at hl 0 rfl) ?_
        refine lv_if_lt (tgt := 66) S.1 S.2.1 dX3_near_52 (by decide) (fun c_52 => ?_) (fun c_52 => ?_)
        · skip
          refine lv_iconst (v := (nI 2)) S.1 S.2.1 dX3_near_66 (by decide) ?_
          refine lv_goto (tgt := 71) S.1 S.2.1 dX3_near_67 (by decide) ?_
          refine o_put S hG i_X3 tyX3_ok nmX3 (by decide) hM.1 rfl 0 (by decide) kf_29 rfl rfl rfl (Nat.le_of_ble_eq_true rfl) dX3_near_71 (fun H locs hG => ?_)
          obtain ⟨f_4, ef_4, hG⟩ := ov_name hG
          have hM := hM.u0 (cd2 := 2) ef_4
          have hO := hO.up ef_4 (by decide)
          refine lv_aload_n S.1 S.2.1 dX3_near_74 rfl (lv_at hl 1 rfl) ?_
          refine o_get S hG i_X3 (by decide) hM.1 rfl 0 (by decide) kf_29 rfl dX3_near_75 ?_
          refine lv_if_le (tgt := 85) S.1 S.2.1 dX3_near_78 (by decide) (fun c_78 => ?_) (fun c_78 => ?_)
          · skip
            exact absurd c_78 (by decide)
          · skip
            refine lv_iconst (v := (nI 0)) S.1 S.2.1 dX3_near_81 (by decide) ?_
            refine lv_goto (tgt := 98) S.1 S.2.1 dX3_near_82 (by decide) ?_
            exact ret _ _ _ _ _ _ _ _ hG ⟨hO, Or.inl ⟨j, hj2, rfl, hj3, Or.inr ⟨wi_f1 c_52, hM⟩⟩⟩ rfl (Nat.le_of_ble_eq_true rfl) (Nat.le_of_ble_eq_true rfl) dX3_near_98
        · skip
          refine lv_iload S.1 S.2.1 dX3_near_55 (lv_at hl 0 rfl) ?_
          refine lv_aload_n S.1 S.2.1 dX3_near_57 rfl (lv_at hl 1 rfl) ?_
          refine o_get S hG i_X3 (by decide) hM.1 rfl 3 (by decide) kf_16 rfl dX3_near_58 ?_
          refine lv_iload_n S.1 S.2.1 dX3_near_61 rfl (lv_at hl 2 rfl) ?_
          refine o_iald S hG (j := j) (by decide) hM.2.2.2.1 (by omega) dX3_near_62 (kk := ?_)
          refine lv_icmp_lt (tgt := 70) S.1 S.2.1 dX3_near_63 (by decide) (fun c_63 => ?_) (fun c_63 => ?_)
          · skip
            obtain ⟨i, hi, hne⟩ := v_lt (by omega) c_52 c_63
            rw [hne] at hl
            refine lv_iconst (v := (nI 0)) S.1 S.2.1 dX3_near_70 (by decide) ?_
            refine o_put S hG i_X3 tyX3_ok nmX3 (by decide) hM.1 rfl 0 (by decide) kf_29 rfl rfl rfl (Nat.le_of_ble_eq_true rfl) dX3_near_71 (fun H locs hG => ?_)
            obtain ⟨f_5, ef_5, hG⟩ := ov_name hG
            have hM := hM.u0 (cd2 := 0) ef_5
            have hO := hO.up ef_5 (by decide)
            refine lv_aload_n S.1 S.2.1 dX3_near_74 rfl (lv_at hl 1 rfl) ?_
            refine o_get S hG i_X3 (by decide) hM.1 rfl 0 (by decide) kf_29 rfl dX3_near_75 ?_
            refine lv_if_le (tgt := 85) S.1 S.2.1 dX3_near_78 (by decide) (fun c_78 => ?_) (fun c_78 => ?_)
            · skip
              refine lv_aload_n S.1 S.2.1 dX3_near_85 rfl (lv_at hl 1 rfl) ?_
              refine o_get S hG i_X3 (by decide) hM.1 rfl 1 (by decide) kf_7 rfl dX3_near_86 ?_
              refine lv_sipush (v := (nI 600)) S.1 S.2.1 dX3_near_89 (by decide) ?_
              refine lv_iload_n S.1 S.2.1 dX3_near_92 rfl (lv_at hl 2 rfl) ?_
              refine o_mul S (a := 600) (b := j) dX3_near_93 ?_
              refine lv_iload S.1 S.2.1 dX3_near_94 (lv_at hl 0 rfl) ?_
              refine o_add S (a := 600 * j) (b := i) dX3_near_96 ?_
              refine o_iald S hG (j := (600 * j) + i) (by decide) hM.2.1 (by omega) dX3_near_97 (kk := ?_)
              exact ret _ _ _ _ _ _ _ _ hG ⟨hO, Or.inl ⟨j, hj2, rfl, hj3, Or.inl ⟨i, hi, hne, rfl, hM⟩⟩⟩ rfl (Nat.le_of_ble_eq_true rfl) (Nat.le_of_ble_eq_true rfl) dX3_near_98
            · skip
              exact absurd c_78 (by decide)
          · skip
            refine lv_iconst (v := (nI 2)) S.1 S.2.1 dX3_near_66 (by decide) ?_
            refine lv_goto (tgt := 71) S.1 S.2.1 dX3_near_67 (by decide) ?_
            refine o_put S hG i_X3 tyX3_ok nmX3 (by decide) hM.1 rfl 0 (by decide) kf_29 rfl rfl rfl (Nat.le_of_ble_eq_true rfl) dX3_near_71 (fun H locs hG => ?_)
            obtain ⟨f_6, ef_6, hG⟩ := ov_name hG
            have hM := hM.u0 (cd2 := 2) ef_6
            have hO := hO.up ef_6 (by decide)
            refine lv_aload_n S.1 S.2.1 dX3_near_74 rfl (lv_at hl 1 rfl) ?_
            refine o_get S hG i_X3 (by decide) hM.1 rfl 0 (by decide) kf_29 rfl dX3_near_75 ?_
            refine lv_if_le (tgt := 85) S.1 S.2.1 dX3_near_78 (by decide) (fun c_78 => ?_) (fun c_78 => ?_)
            · skip
              exact absurd c_78 (by decide)
            · skip
              refine lv_iconst (v := (nI 0)) S.1 S.2.1 dX3_near_81 (by decide) ?_
              refine lv_goto (tgt := 98) S.1 S.2.1 dX3_near_82 (by decide) ?_
              exact ret _ _ _ _ _ _ _ _ hG ⟨hO, Or.inl ⟨j, hj2, rfl, hj3, Or.inr ⟨wi_f2 hnj (i32_of_nlt c_63), hM⟩⟩⟩ rfl (Nat.le_of_ble_eq_true rfl) (Nat.le_of_ble_eq_true rfl) dX3_near_98
      · skip
        refine lv_aload_n S.1 S.2.1 dX3_near_30 rfl (lv_at hl 0 rfl) ?_
        refine lv_iload_n S.1 S.2.1 dX3_near_31 rfl (lv_at hl 1 rfl) ?_
        refine lv_iload_n S.1 S.2.1 dX3_near_32 rfl (lv_at hl 2 rfl) ?_
        refine o_cVi S (rest := []) (c_X3_below l G ad s0 f_2 0 K V sz th pl dn j key hM (by omega) (by omega)) (cwV 2 S.2.2.2.2 gX3_near_X3_below rfl rfl rfl (by decide +kernel) ⟨(Nat.le_of_ble_eq_true rfl), (Nat.le_of_ble_eq_true rfl)⟩) hG (by decide) hM.1 rfl rfl hl.1 rfl (Nat.le_of_ble_eq_true rfl) dX3_near_33 ⟨(Nat.le_of_ble_eq_true rfl), (Nat.le_of_ble_eq_true rfl)⟩ (fun r9 f9 H locs hp hG => ?_)
        obtain ⟨rfl, rfl⟩ := hp
        have lb_7 := bel_le (sz j) (of K j) key
        refine lv_goto (tgt := 47) S.1 S.2.1 dX3_near_36 (by decide) ?_
        refine o_top (show _ = nea (sz j) (of K j) key ab from by rw [c_27]; rfl) ?_
        refine lv_istore (lv' := [(4, .int (nea (sz j) (of K j) key ab)), (0, .ref (ad 76)), (1, .int (nI j)), (2, .int key), (3, .int (bI ab))]) S.1 S.2.1 dX3_near_47 hl (by decide) rfl (fun ls hl => ?_)
        refine lv_aload_n S.1 S.2.1 dX3_near_49 rfl (lv_at hl 1 rfl) ?_
        refine lv_iload S.1 S.2.1 dX3_near_50 (lv_at hl 0 rfl) ?_
        refine lv_if_lt (tgt := 66) S.1 S.2.1 dX3_near_52 (by decide) (fun c_52 => ?_) (fun c_52 => ?_)
        · skip
          refine lv_iconst (v := (nI 2)) S.1 S.2.1 dX3_near_66 (by decide) ?_
          refine lv_goto (tgt := 71) S.1 S.2.1 dX3_near_67 (by decide) ?_
          refine o_put S hG i_X3 tyX3_ok nmX3 (by decide) hM.1 rfl 0 (by decide) kf_29 rfl rfl rfl (Nat.le_of_ble_eq_true rfl) dX3_near_71 (fun H locs hG => ?_)
          obtain ⟨f_8, ef_8, hG⟩ := ov_name hG
          have hM := hM.u0 (cd2 := 2) ef_8
          have hO := hO.up ef_8 (by decide)
          refine lv_aload_n S.1 S.2.1 dX3_near_74 rfl (lv_at hl 1 rfl) ?_
          refine o_get S hG i_X3 (by decide) hM.1 rfl 0 (by decide) kf_29 rfl dX3_near_75 ?_
          refine lv_if_le (tgt := 85) S.1 S.2.1 dX3_near_78 (by decide) (fun c_78 => ?_) (fun c_78 => ?_)
          · skip
            exact absurd c_78 (by decide)
          · skip
            refine lv_iconst (v := (nI 0)) S.1 S.2.1 dX3_near_81 (by decide) ?_
            refine lv_goto (tgt := 98) S.1 S.2.1 dX3_near_82 (by decide) ?_
            exact ret _ _ _ _ _ _ _ _ hG ⟨hO, Or.inl ⟨j, hj2, rfl, hj3, Or.inr ⟨wi_f1 c_52, hM⟩⟩⟩ rfl (Nat.le_of_ble_eq_true rfl) (Nat.le_of_ble_eq_true rfl) dX3_near_98
        · skip
          refine lv_iload S.1 S.2.1 dX3_near_55 (lv_at hl 0 rfl) ?_
          refine lv_aload_n S.1 S.2.1 dX3_near_57 rfl (lv_at hl 1 rfl) ?_
          refine o_get S hG i_X3 (by decide) hM.1 rfl 3 (by decide) kf_16 rfl dX3_near_58 ?_
          refine lv_iload_n S.1 S.2.1 dX3_near_61 rfl (lv_at hl 2 rfl) ?_
          refine o_iald S hG (j := j) (by decide) hM.2.2.2.1 (by omega) dX3_near_62 (kk := ?_)
          refine lv_icmp_lt (tgt := 70) S.1 S.2.1 dX3_near_63 (by decide) (fun c_63 => ?_) (fun c_63 => ?_)
          · skip
            obtain ⟨i, hi, hne⟩ := v_lt (by omega) c_52 c_63
            rw [hne] at hl
            refine lv_iconst (v := (nI 0)) S.1 S.2.1 dX3_near_70 (by decide) ?_
            refine o_put S hG i_X3 tyX3_ok nmX3 (by decide) hM.1 rfl 0 (by decide) kf_29 rfl rfl rfl (Nat.le_of_ble_eq_true rfl) dX3_near_71 (fun H locs hG => ?_)
            obtain ⟨f_9, ef_9, hG⟩ := ov_name hG
            have hM := hM.u0 (cd2 := 0) ef_9
            have hO := hO.up ef_9 (by decide)
            refine lv_aload_n S.1 S.2.1 dX3_near_74 rfl (lv_at hl 1 rfl) ?_
            refine o_get S hG i_X3 (by decide) hM.1 rfl 0 (by decide) kf_29 rfl dX3_near_75 ?_
            refine lv_if_le (tgt := 85) S.1 S.2.1 dX3_near_78 (by decide) (fun c_78 => ?_) (fun c_78 => ?_)
            · skip
              refine lv_aload_n S.1 S.2.1 dX3_near_85 rfl (lv_at hl 1 rfl) ?_
              refine o_get S hG i_X3 (by decide) hM.1 rfl 1 (by decide) kf_7 rfl dX3_near_86 ?_
              refine lv_sipush (v := (nI 600)) S.1 S.2.1 dX3_near_89 (by decide) ?_
              refine lv_iload_n S.1 S.2.1 dX3_near_92 rfl (lv_at hl 2 rfl) ?_
              refine o_mul S (a := 600) (b := j) dX3_near_93 ?_
              refine lv_iload S.1 S.2.1 dX3_near_94 (lv_at hl 0 rfl) ?_
              refine o_add S (a := 600 * j) (b := i) dX3_near_96 ?_
              refine o_iald S hG (j := (600 * j) + i) (by decide) hM.2.1 (by omega) dX3_near_97 (kk := ?_)
              exact ret _ _ _ _ _ _ _ _ hG ⟨hO, Or.inl ⟨j, hj2, rfl, hj3, Or.inl ⟨i, hi, hne, rfl, hM⟩⟩⟩ rfl (Nat.le_of_ble_eq_true rfl) (Nat.le_of_ble_eq_true rfl) dX3_near_98
            · skip
              exact absurd c_78 (by decide)
          · skip
            refine lv_iconst (v := (nI 2)) S.1 S.2.1 dX3_near_66 (by decide) ?_
            refine lv_goto (tgt := 71) S.1 S.2.1 dX3_near_67 (by decide) ?_
            refine o_put S hG i_X3 tyX3_ok nmX3 (by decide) hM.1 rfl 0 (by decide) kf_29 rfl rfl rfl (Nat.le_of_ble_eq_true rfl) dX3_near_71 (fun H locs hG => ?_)
            obtain ⟨f_10, ef_10, hG⟩ := ov_name hG
            have hM := hM.u0 (cd2 := 2) ef_10
            have hO := hO.up ef_10 (by decide)
            refine lv_aload_n S.1 S.2.1 dX3_near_74 rfl (lv_at hl 1 rfl) ?_
            refine o_get S hG i_X3 (by decide) hM.1 rfl 0 (by decide) kf_29 rfl dX3_near_75 ?_
            refine lv_if_le (tgt := 85) S.1 S.2.1 dX3_near_78 (by decide) (fun c_78 => ?_) (fun c_78 => ?_)
            · skip
              exact absurd c_78 (by decide)
            · skip
              refine lv_iconst (v := (nI 0)) S.1 S.2.1 dX3_near_81 (by decide) ?_
              refine lv_goto (tgt := 98) S.1 S.2.1 dX3_near_82 (by decide) ?_
              exact ret _ _ _ _ _ _ _ _ hG ⟨hO, Or.inl ⟨j, hj2, rfl, hj3, Or.inr ⟨wi_f2 hnj (i32_of_nlt c_63), hM⟩⟩⟩ rfl (Nat.le_of_ble_eq_true rfl) (Nat.le_of_ble_eq_true rfl) dX3_near_98
    · skip
      exact absurd c_21 (by decide)

/-- the sum over a range, the first n places -/
def smF (k v : Nat → Int32) (lo hi : Int32) : Nat → Int64
  | 0 => lN 0
  | n + 1 => smF k v lo hi n + (if lo ≤ k n ∧ k n ≤ hi then (v n).toInt64 else lN 0)
/-- the greatest value over a range, the first n places -/
def grF (k v : Nat → Int32) (lo hi : Int32) : Nat → Int32
  | 0 => -2147483648
  | n + 1 => if lo ≤ k n ∧ k n ≤ hi ∧ grF k v lo hi n < v n then v n else grF k v lo hi n

theorem smF_t {k v : Nat → Int32} {lo hi : Int32} {n : Nat} (h : lo ≤ k n ∧ k n ≤ hi) : smF k v lo hi (n + 1) = smF k v lo hi n + (v n).toInt64 := by simp only [smF]; rw [if_pos h]
theorem smF_f {k v : Nat → Int32} {lo hi : Int32} {n : Nat} (h : ¬ (lo ≤ k n ∧ k n ≤ hi)) : smF k v lo hi (n + 1) = smF k v lo hi n + lN 0 := by simp only [smF]; rw [if_neg h]

set_option maxHeartbeats 4000000 in
set_option maxRecDepth 100000 in
theorem c_X3_sum (l : Launch) (G : Gx) (ad : Nat → Nat) (s0 : Nat) (f : Nat → va_E) (cd : Nat) (K V : Nat → Int32) (sz : Nat → Nat) (th : Nat → Bool) (pl : Nat → Int) (dn : Nat → Bool) (v lo hi : Int32) (hM : MB G ad f cd K V sz th pl dn) (hW : ∀ j, j < 21 → th j = true → sz j ≤ 600) (h00 : th 0 = true) : mL l yX3_sum wsX3_sum 1 21 0 0 [.ref (ad 76), .int v, .int lo, .int hi] G 84 ad s0 f (fun r f' => OnM f f' ∧ ((∃ j, j ≤ 12 ∧ v = nI j ∧ th j = true ∧ r = smF (of K j) (of V j) lo hi (sz j) ∧ MB G ad f' 0 K V sz th pl dn) ∨ (isv th v = false ∧ MB G ad f' 1 K V sz th pl dn))) := by
  refine ov_mL (cc := cX3_sum) (maxL := 8) (by decide) rfl (Nat.le_of_ble_eq_true rfl) ?_
  intro p e s m below meth c av Q S ret hG ls hl
  have S : CallFix p m c cX3_sum 8 s av wsX3_sum RX3 := S
  have hl : lv_has ls 8 [(0, .ref (ad 76)), (1, .int v), (2, .int lo), (3, .int hi)] := hl
  have i_X3 : ∀ w ∈ u_ws RX3 TX3 7, w ∈ wsX3_sum := by decide +kernel
  have kf_7 := S.2.2.2.2 (.fieldLink RX3 7 "OrderedVersionsModel" "keys" "[I") (by decide +kernel)
  have kf_13 := S.2.2.2.2 (.fieldLink RX3 13 "OrderedVersionsModel" "values" "[I") (by decide +kernel)
  have kf_16 := S.2.2.2.2 (.fieldLink RX3 16 "OrderedVersionsModel" "sizes" "[I") (by decide +kernel)
  have kf_29 := S.2.2.2.2 (.fieldLink RX3 29 "OrderedVersionsModel" "code" "I") (by decide +kernel)
  have hO : OnM f f := OnM.rf
  refine lv_aload_n S.1 S.2.1 dX3_sum_0 rfl (lv_at hl 0 rfl) ?_
  refine lv_aload_n S.1 S.2.1 dX3_sum_1 rfl (lv_at hl 0 rfl) ?_
  refine lv_iload_n S.1 S.2.1 dX3_sum_2 rfl (lv_at hl 1 rfl) ?_
  refine o_cVi S (rest := [.ref (ad 76)]) (c_X3_isVersion l G ad s0 f cd K V sz th pl dn v hM ) (cwV 1 S.2.2.2.2 gX3_sum_X3_isVersion rfl rfl rfl (by decide +kernel) ⟨(Nat.le_of_ble_eq_true rfl), (Nat.le_of_ble_eq_true rfl)⟩) hG (by decide) hM.1 rfl rfl hl.1 rfl (Nat.le_of_ble_eq_true rfl) dX3_sum_3 ⟨(Nat.le_of_ble_eq_true rfl), (Nat.le_of_ble_eq_true rfl)⟩ (fun r9 f9 H locs hp hG => ?_)
  obtain ⟨rfl, rfl⟩ := hp
  refine b_if_eq S (b := (isv th v)) (tgt := 13) dX3_sum_6 (by decide) (fun c_6 => ?_) (fun c_6 => ?_)
  · skip
    refine lv_iconst (v := (nI 1)) S.1 S.2.1 dX3_sum_13 (by decide) ?_
    refine o_put S hG i_X3 tyX3_ok nmX3 (by decide) hM.1 rfl 0 (by decide) kf_29 rfl rfl rfl (Nat.le_of_ble_eq_true rfl) dX3_sum_14 (fun H locs hG => ?_)
    obtain ⟨f_1, ef_1, hG⟩ := ov_name hG
    have hM := hM.u0 (cd2 := 1) ef_1
    have hO := hO.up ef_1 (by decide)
    refine lv_lconst (v := lN 0) S.1 S.2.1 dX3_sum_17 (by decide) ?_
    refine lv_lstore (lv' := [(4, .long (lN 0)), (0, .ref (ad 76)), (1, .int v), (2, .int lo), (3, .int hi)]) S.1 S.2.1 dX3_sum_18 hl (by decide) rfl (fun ls hl => ?_)
    refine lv_iconst (v := (nI 0)) S.1 S.2.1 dX3_sum_20 (by decide) ?_
    refine lv_istore (lv' := [(6, .int (nI 0)), (4, .long (lN 0)), (0, .ref (ad 76)), (1, .int v), (2, .int lo), (3, .int hi)]) S.1 S.2.1 dX3_sum_21 hl (by decide) rfl (fun ls hl => ?_)
    refine lv_aload_n S.1 S.2.1 dX3_sum_23 rfl (lv_at hl 2 rfl) ?_
    refine o_get S hG i_X3 (by decide) hM.1 rfl 0 (by decide) kf_29 rfl dX3_sum_24 ?_
    refine n_if_ne S (a := 1) (tgt := 97) dX3_sum_27 (by decide) (by omega) (fun c_27 => ?_) (fun c_27 => ?_)
    · skip
      refine lv_lload S.1 S.2.1 dX3_sum_97 (lv_at hl 1 rfl) ?_
      exact ret _ _ _ _ _ _ _ _ hG ⟨hO, Or.inr ⟨c_6, hM⟩⟩ (Nat.le_of_ble_eq_true rfl) (Nat.le_of_ble_eq_true rfl) dX3_sum_99
    · skip
      exact absurd c_27 (by decide)
  · skip
    obtain ⟨j, hj2, rfl, hj3⟩ := isv_ex c_6
    have hnj := hW j (by omega) hj3
    refine lv_iconst (v := (nI 0)) S.1 S.2.1 dX3_sum_9 (by decide) ?_
    refine lv_goto (tgt := 14) S.1 S.2.1 dX3_sum_10 (by decide) ?_
    refine o_put S hG i_X3 tyX3_ok nmX3 (by decide) hM.1 rfl 0 (by decide) kf_29 rfl rfl rfl (Nat.le_of_ble_eq_true rfl) dX3_sum_14 (fun H locs hG => ?_)
    obtain ⟨f_2, ef_2, hG⟩ := ov_name hG
    have hM := hM.u0 (cd2 := 0) ef_2
    have hO := hO.up ef_2 (by decide)
    refine lv_lconst (v := lN 0) S.1 S.2.1 dX3_sum_17 (by decide) ?_
    refine lv_lstore (lv' := [(4, .long (lN 0)), (0, .ref (ad 76)), (1, .int (nI j)), (2, .int lo), (3, .int hi)]) S.1 S.2.1 dX3_sum_18 hl (by decide) rfl (fun ls hl => ?_)
    refine lv_iconst (v := (nI 0)) S.1 S.2.1 dX3_sum_20 (by decide) ?_
    refine lv_istore (lv' := [(6, .int (nI 0)), (4, .long (lN 0)), (0, .ref (ad 76)), (1, .int (nI j)), (2, .int lo), (3, .int hi)]) S.1 S.2.1 dX3_sum_21 hl (by decide) rfl (fun ls hl => ?_)
    have L_23 : ∀ (d9 : Nat) (acc : Int64) (i : Nat) (H : Heap) (locs : List Loc), (i ≤ sz j) → (acc = smF (of K j) (of V j) lo hi i) → (sz j - i) < d9 → ov_dy G 84 ad s0 s f_2 H locs → ∀ ls : Array Slot, lv_has ls 8 [(0, .ref (ad 76)), (1, .int (nI j)), (2, .int lo), (3, .int hi), (4, .long acc), (6, .int (nI i))] → W p l e (ov_rm 1 21 0 0) s m av below meth c H locs 0 0 Q (F0 m 23 ls []) := by
      intro d9
      induction d9 with
      | zero => intro acc i H locs hi9 hc h9; exact absurd h9 (Nat.not_lt_zero _)
      | succ d9 ih_23 =>
        intro acc i H locs hi9 hc h9 hG ls hl
        refine lv_aload_n S.1 S.2.1 dX3_sum_23 rfl (lv_at hl 0 rfl) ?_
        refine o_get S hG i_X3 (by decide) hM.1 rfl 0 (by decide) kf_29 rfl dX3_sum_24 ?_
        refine n_if_ne S (a := 0) (tgt := 97) dX3_sum_27 (by decide) (by omega) (fun c_27 => ?_) (fun c_27 => ?_)
        · skip
          exact absurd c_27 (by decide)
        · skip
          refine lv_iload S.1 S.2.1 dX3_sum_30 (lv_at hl 5 rfl) ?_
          refine lv_aload_n S.1 S.2.1 dX3_sum_32 rfl (lv_at hl 0 rfl) ?_
          refine o_get S hG i_X3 (by decide) hM.1 rfl 3 (by decide) kf_16 rfl dX3_sum_33 ?_
          refine lv_iload_n S.1 S.2.1 dX3_sum_36 rfl (lv_at hl 1 rfl) ?_
          refine o_iald S hG (j := j) (by decide) hM.2.2.2.1 (by omega) dX3_sum_37 (kk := ?_)
          refine n_ge S (a := i) (b := sz j) (tgt := 97) dX3_sum_38 (by decide) (by omega) (by omega) (fun c_38 => ?_) (fun c_38 => ?_)
          · skip
            refine lv_lload S.1 S.2.1 dX3_sum_97 (lv_at hl 4 rfl) ?_
            exact ret _ _ _ _ _ _ _ _ hG ⟨hO, Or.inl ⟨j, hj2, rfl, hj3, by rw [hc, show i = sz j by omega], hM⟩⟩ (Nat.le_of_ble_eq_true rfl) (Nat.le_of_ble_eq_true rfl) dX3_sum_99
          · skip
            refine lv_aload_n S.1 S.2.1 dX3_sum_41 rfl (lv_at hl 0 rfl) ?_
            refine o_get S hG i_X3 (by decide) hM.1 rfl 1 (by decide) kf_7 rfl dX3_sum_42 ?_
            refine lv_sipush (v := (nI 600)) S.1 S.2.1 dX3_sum_45 (by decide) ?_
            refine lv_iload_n S.1 S.2.1 dX3_sum_48 rfl (lv_at hl 1 rfl) ?_
            refine o_mul S (a := 600) (b := j) dX3_sum_49 ?_
            refine lv_iload S.1 S.2.1 dX3_sum_50 (lv_at hl 5 rfl) ?_
            refine o_add S (a := 600 * j) (b := i) dX3_sum_52 ?_
            refine o_iald S hG (j := (600 * j) + i) (by decide) hM.2.1 (by omega) dX3_sum_53 (kk := ?_)
            refine lv_istore (lv' := [(7, .int (K ((600 * j) + i))), (0, .ref (ad 76)), (1, .int (nI j)), (2, .int lo), (3, .int hi), (4, .long acc), (6, .int (nI i))]) S.1 S.2.1 dX3_sum_54 hl (by decide) rfl (fun ls hl => ?_)
            refine lv_lload S.1 S.2.1 dX3_sum_56 (lv_at hl 5 rfl) ?_
            refine lv_iload S.1 S.2.1 dX3_sum_58 (lv_at hl 0 rfl) ?_
            refine lv_iload_n S.1 S.2.1 dX3_sum_60 rfl (lv_at hl 3 rfl) ?_
            refine lv_icmp_lt (tgt := 87) S.1 S.2.1 dX3_sum_61 (by decide) (fun c_61 => ?_) (fun c_61 => ?_)
            · skip
              refine lv_lconst (v := lN 0) S.1 S.2.1 dX3_sum_87 (by decide) ?_
              refine lv_ladd S.1 S.2.1 dX3_sum_88 ?_
              refine lv_lstore (lv' := [(4, .long (acc + (lN 0))), (7, .int (K ((600 * j) + i))), (0, .ref (ad 76)), (1, .int (nI j)), (2, .int lo), (3, .int hi), (6, .int (nI i))]) S.1 S.2.1 dX3_sum_89 hl (by decide) rfl (fun ls hl => ?_)
              refine lv_iinc (v := (nI (i + 1))) (lv' := [(6, .int (nI (i + 1))), (4, .long (acc + (lN 0))), (7, .int (K ((600 * j) + i))), (0, .ref (ad 76)), (1, .int (nI j)), (2, .int lo), (3, .int hi)]) S.1 S.2.1 dX3_sum_91 hl (k := 6) rfl (nI_add i 1) (by decide) rfl (fun ls hl => ?_)
              refine lv_goto (tgt := 23) S.1 S.2.1 dX3_sum_94 (by decide) ?_
              exact ih_23 (acc + (lN 0)) (i + 1) _ _ (by omega) (by rw [hc]; exact (smF_f (k := of K j) (v := of V j) (n := i) (lo := lo) (hi := hi) (fun q => i32_nlt q.1 c_61)).symm) (by omega) hG ls (lv_sub hl [3, 4, 5, 6, 1, 0] rfl)
            · skip
              refine lv_iload S.1 S.2.1 dX3_sum_64 (lv_at hl 0 rfl) ?_
              refine lv_iload_n S.1 S.2.1 dX3_sum_66 rfl (lv_at hl 4 rfl) ?_
              refine lv_icmp_gt (tgt := 87) S.1 S.2.1 dX3_sum_67 (by decide) (fun c_67 => ?_) (fun c_67 => ?_)
              · skip
                refine lv_lconst (v := lN 0) S.1 S.2.1 dX3_sum_87 (by decide) ?_
                refine lv_ladd S.1 S.2.1 dX3_sum_88 ?_
                refine lv_lstore (lv' := [(4, .long (acc + (lN 0))), (7, .int (K ((600 * j) + i))), (0, .ref (ad 76)), (1, .int (nI j)), (2, .int lo), (3, .int hi), (6, .int (nI i))]) S.1 S.2.1 dX3_sum_89 hl (by decide) rfl (fun ls hl => ?_)
                refine lv_iinc (v := (nI (i + 1))) (lv' := [(6, .int (nI (i + 1))), (4, .long (acc + (lN 0))), (7, .int (K ((600 * j) + i))), (0, .ref (ad 76)), (1, .int (nI j)), (2, .int lo), (3, .int hi)]) S.1 S.2.1 dX3_sum_91 hl (k := 6) rfl (nI_add i 1) (by decide) rfl (fun ls hl => ?_)
                refine lv_goto (tgt := 23) S.1 S.2.1 dX3_sum_94 (by decide) ?_
                exact ih_23 (acc + (lN 0)) (i + 1) _ _ (by omega) (by rw [hc]; exact (smF_f (k := of K j) (v := of V j) (n := i) (lo := lo) (hi := hi) (fun q => i32_nlt q.2 c_67)).symm) (by omega) hG ls (lv_sub hl [3, 4, 5, 6, 1, 0] rfl)
              · skip
                refine lv_aload_n S.1 S.2.1 dX3_sum_70 rfl (lv_at hl 1 rfl) ?_
                refine o_get S hG i_X3 (by decide) hM.1 rfl 2 (by decide) kf_13 rfl dX3_sum_71 ?_
                refine lv_sipush (v := (nI 600)) S.1 S.2.1 dX3_sum_74 (by decide) ?_
                refine lv_iload_n S.1 S.2.1 dX3_sum_77 rfl (lv_at hl 2 rfl) ?_
                refine o_mul S (a := 600) (b := j) dX3_sum_78 ?_
                refine lv_iload S.1 S.2.1 dX3_sum_79 (lv_at hl 6 rfl) ?_
                refine o_add S (a := 600 * j) (b := i) dX3_sum_81 ?_
                refine o_iald S hG (j := (600 * j) + i) (by decide) hM.2.2.1 (by omega) dX3_sum_82 (kk := ?_)
                refine lv_i2l (v := (V ((600 * j) + i)).toInt64) S.1 S.2.1 dX3_sum_83 rfl ?_
                refine lv_goto (tgt := 88) S.1 S.2.1 dX3_sum_84 (by decide) ?_
                refine lv_ladd S.1 S.2.1 dX3_sum_88 ?_
                refine lv_lstore (lv' := [(4, .long (acc + ((V ((600 * j) + i)).toInt64))), (7, .int (K ((600 * j) + i))), (0, .ref (ad 76)), (1, .int (nI j)), (2, .int lo), (3, .int hi), (6, .int (nI i))]) S.1 S.2.1 dX3_sum_89 hl (by decide) rfl (fun ls hl => ?_)
                refine lv_iinc (v := (nI (i + 1))) (lv' := [(6, .int (nI (i + 1))), (4, .long (acc + ((V ((600 * j) + i)).toInt64))), (7, .int (K ((600 * j) + i))), (0, .ref (ad 76)), (1, .int (nI j)), (2, .int lo), (3, .int hi)]) S.1 S.2.1 dX3_sum_91 hl (k := 6) rfl (nI_add i 1) (by decide) rfl (fun ls hl => ?_)
                refine lv_goto (tgt := 23) S.1 S.2.1 dX3_sum_94 (by decide) ?_
                exact ih_23 (acc + ((V ((600 * j) + i)).toInt64)) (i + 1) _ _ (by omega) (by rw [hc]; exact (smF_t (k := of K j) (v := of V j) (n := i) ⟨i32_of_nlt c_61, i32_of_nlt c_67⟩).symm) (by omega) hG ls (lv_sub hl [3, 4, 5, 6, 1, 0] rfl)
    exact L_23 _ (lN 0) 0 _ _ (Nat.zero_le _) rfl (Nat.lt_succ_self _) hG ls (lv_sub hl [2, 3, 4, 5, 1, 0] rfl)

set_option maxHeartbeats 4000000 in
set_option maxRecDepth 100000 in
theorem c_X3_greatest (l : Launch) (G : Gx) (ad : Nat → Nat) (s0 : Nat) (f : Nat → va_E) (cd : Nat) (K V : Nat → Int32) (sz : Nat → Nat) (th : Nat → Bool) (pl : Nat → Int) (dn : Nat → Bool) (v lo hi : Int32) (hM : MB G ad f cd K V sz th pl dn) (hW : ∀ j, j < 21 → th j = true → sz j ≤ 600) (h00 : th 0 = true) : mI l yX3_greatest wsX3_greatest 4 91 0 0 [.ref (ad 76), .int v, .int lo, .int hi] G 84 ad s0 f (fun r f' => OnM f f' ∧ ((∃ j, j ≤ 12 ∧ v = nI j ∧ th j = true ∧ ((man (sz j) (of K j) lo hi ≠ 0 ∧ r = grF (of K j) (of V j) lo hi (sz j) ∧ MB G ad f' 0 K V sz th pl dn) ∨ (man (sz j) (of K j) lo hi = 0 ∧ MB G ad f' 2 K V sz th pl dn))) ∨ (isv th v = false ∧ MB G ad f' 1 K V sz th pl dn))) := by
  refine ov_mI (cc := cX3_greatest) (maxL := 8) (ty := .int) (by decide) rfl (Nat.le_of_ble_eq_true rfl) ?_
  intro p e s m below meth c av Q S ret hG ls hl
  have S : CallFix p m c cX3_greatest 8 s av wsX3_greatest RX3 := S
  have hl : lv_has ls 8 [(0, .ref (ad 76)), (1, .int v), (2, .int lo), (3, .int hi)] := hl
  have i_X3 : ∀ w ∈ u_ws RX3 TX3 7, w ∈ wsX3_greatest := by decide +kernel
  have kf_7 := S.2.2.2.2 (.fieldLink RX3 7 "OrderedVersionsModel" "keys" "[I") (by decide +kernel)
  have kf_13 := S.2.2.2.2 (.fieldLink RX3 13 "OrderedVersionsModel" "values" "[I") (by decide +kernel)
  have kf_16 := S.2.2.2.2 (.fieldLink RX3 16 "OrderedVersionsModel" "sizes" "[I") (by decide +kernel)
  have kf_29 := S.2.2.2.2 (.fieldLink RX3 29 "OrderedVersionsModel" "code" "I") (by decide +kernel)
  have hO : OnM f f := OnM.rf
  refine lv_aload_n S.1 S.2.1 dX3_greatest_0 rfl (lv_at hl 0 rfl) ?_
  refine lv_aload_n S.1 S.2.1 dX3_greatest_1 rfl (lv_at hl 0 rfl) ?_
  refine lv_iload_n S.1 S.2.1 dX3_greatest_2 rfl (lv_at hl 1 rfl) ?_
  refine o_cVi S (rest := [.ref (ad 76)]) (c_X3_isVersion l G ad s0 f cd K V sz th pl dn v hM ) (cwV 1 S.2.2.2.2 gX3_greatest_X3_isVersion rfl rfl rfl (by decide +kernel) ⟨(Nat.le_of_ble_eq_true rfl), (Nat.le_of_ble_eq_true rfl)⟩) hG (by decide) hM.1 rfl rfl hl.1 rfl (Nat.le_of_ble_eq_true rfl) dX3_greatest_3 ⟨(Nat.le_of_ble_eq_true rfl), (Nat.le_of_ble_eq_true rfl)⟩ (fun r9 f9 H locs hp hG => ?_)
  obtain ⟨rfl, rfl⟩ := hp
  refine b_if_eq S (b := (isv th v)) (tgt := 13) dX3_greatest_6 (by decide) (fun c_6 => ?_) (fun c_6 => ?_)
  · skip
    refine lv_iconst (v := (nI 1)) S.1 S.2.1 dX3_greatest_13 (by decide) ?_
    refine o_put S hG i_X3 tyX3_ok nmX3 (by decide) hM.1 rfl 0 (by decide) kf_29 rfl rfl rfl (Nat.le_of_ble_eq_true rfl) dX3_greatest_14 (fun H locs hG => ?_)
    obtain ⟨f_1, ef_1, hG⟩ := ov_name hG
    have hM := hM.u0 (cd2 := 1) ef_1
    have hO := hO.up ef_1 (by decide)
    refine lv_aload_n S.1 S.2.1 dX3_greatest_17 rfl (lv_at hl 0 rfl) ?_
    refine lv_aload_n S.1 S.2.1 dX3_greatest_18 rfl (lv_at hl 0 rfl) ?_
    refine o_get S hG i_X3 (by decide) hM.1 rfl 0 (by decide) kf_29 rfl dX3_greatest_19 ?_
    refine n_if_ne S (a := 1) (tgt := 39) dX3_greatest_22 (by decide) (by omega) (fun c_22 => ?_) (fun c_22 => ?_)
    · skip
      refine lv_aload_n S.1 S.2.1 dX3_greatest_39 rfl (lv_at hl 0 rfl) ?_
      refine o_get S hG i_X3 (by decide) hM.1 rfl 0 (by decide) kf_29 rfl dX3_greatest_40 ?_
      refine o_put S hG i_X3 tyX3_ok nmX3 (by decide) hM.1 rfl 0 (by decide) kf_29 rfl rfl rfl (Nat.le_of_ble_eq_true rfl) dX3_greatest_43 (fun H locs hG => ?_)
      obtain ⟨f_2, ef_2, hG⟩ := ov_name hG
      have hM := hM.u0 (cd2 := 1) ef_2
      have hO := hO.up ef_2 (by decide)
      refine lv_aload_n S.1 S.2.1 dX3_greatest_46 rfl (lv_at hl 0 rfl) ?_
      refine o_get S hG i_X3 (by decide) hM.1 rfl 0 (by decide) kf_29 rfl dX3_greatest_47 ?_
      refine lv_if_le (tgt := 55) S.1 S.2.1 dX3_greatest_50 (by decide) (fun c_50 => ?_) (fun c_50 => ?_)
      · skip
        exact absurd c_50 (by decide)
      · skip
        refine lv_iconst (v := (nI 0)) S.1 S.2.1 dX3_greatest_53 (by decide) ?_
        exact ret _ _ _ _ _ _ _ _ hG ⟨hO, Or.inr ⟨c_6, hM⟩⟩ rfl (Nat.le_of_ble_eq_true rfl) (Nat.le_of_ble_eq_true rfl) dX3_greatest_54
    · skip
      exact absurd c_22 (by decide)
  · skip
    obtain ⟨j, hj2, rfl, hj3⟩ := isv_ex c_6
    have hnj := hW j (by omega) hj3
    refine lv_iconst (v := (nI 0)) S.1 S.2.1 dX3_greatest_9 (by decide) ?_
    refine lv_goto (tgt := 14) S.1 S.2.1 dX3_greatest_10 (by decide) ?_
    refine o_put S hG i_X3 tyX3_ok nmX3 (by decide) hM.1 rfl 0 (by decide) kf_29 rfl rfl rfl (Nat.le_of_ble_eq_true rfl) dX3_greatest_14 (fun H locs hG => ?_)
    obtain ⟨f_3, ef_3, hG⟩ := ov_name hG
    have hM := hM.u0 (cd2 := 0) ef_3
    have hO := hO.up ef_3 (by decide)
    refine lv_aload_n S.1 S.2.1 dX3_greatest_17 rfl (lv_at hl 0 rfl) ?_
    refine lv_aload_n S.1 S.2.1 dX3_greatest_18 rfl (lv_at hl 0 rfl) ?_
    refine o_get S hG i_X3 (by decide) hM.1 rfl 0 (by decide) kf_29 rfl dX3_greatest_19 ?_
    refine n_if_ne S (a := 0) (tgt := 39) dX3_greatest_22 (by decide) (by omega) (fun c_22 => ?_) (fun c_22 => ?_)
    · skip
      exact absurd c_22 (by decide)
    · skip
      refine lv_aload_n S.1 S.2.1 dX3_greatest_25 rfl (lv_at hl 0 rfl) ?_
      refine lv_iload_n S.1 S.2.1 dX3_greatest_26 rfl (lv_at hl 1 rfl) ?_
      refine lv_iload_n S.1 S.2.1 dX3_greatest_27 rfl (lv_at hl 2 rfl) ?_
      refine lv_iload_n S.1 S.2.1 dX3_greatest_28 rfl (lv_at hl 3 rfl) ?_
      refine o_cVi S (rest := [.ref (ad 76)]) (c_X3_many l G ad s0 f_3 0 K V sz th pl dn j lo hi hM (by omega) (by omega)) (cwV 3 S.2.2.2.2 gX3_greatest_X3_many rfl rfl rfl (by decide +kernel) ⟨(Nat.le_of_ble_eq_true rfl), (Nat.le_of_ble_eq_true rfl)⟩) hG (by decide) hM.1 rfl rfl hl.1 rfl (Nat.le_of_ble_eq_true rfl) dX3_greatest_29 ⟨(Nat.le_of_ble_eq_true rfl), (Nat.le_of_ble_eq_true rfl)⟩ (fun r9 f9 H locs hp hG => ?_)
      obtain ⟨rfl, rfl⟩ := hp
      have hmb : man (sz j) (of K j) lo hi < 2147483648 := by have := cut_le (n := sz j) (k := of K j) (lo := lo) (hi := hi) hnj; omega
      refine n_if_ne S (a := man (sz j) (of K j) lo hi) (tgt := 39) dX3_greatest_32 (by decide) (by omega) (fun c_32 => ?_) (fun c_32 => ?_)
      · skip
        refine lv_aload_n S.1 S.2.1 dX3_greatest_39 rfl (lv_at hl 0 rfl) ?_
        refine o_get S hG i_X3 (by decide) hM.1 rfl 0 (by decide) kf_29 rfl dX3_greatest_40 ?_
        refine o_put S hG i_X3 tyX3_ok nmX3 (by decide) hM.1 rfl 0 (by decide) kf_29 rfl rfl rfl (Nat.le_of_ble_eq_true rfl) dX3_greatest_43 (fun H locs hG => ?_)
        obtain ⟨f_4, ef_4, hG⟩ := ov_name hG
        have hM := hM.u0 (cd2 := 0) ef_4
        have hO := hO.up ef_4 (by decide)
        refine lv_aload_n S.1 S.2.1 dX3_greatest_46 rfl (lv_at hl 0 rfl) ?_
        refine o_get S hG i_X3 (by decide) hM.1 rfl 0 (by decide) kf_29 rfl dX3_greatest_47 ?_
        refine lv_if_le (tgt := 55) S.1 S.2.1 dX3_greatest_50 (by decide) (fun c_50 => ?_) (fun c_50 => ?_)
        · skip
          refine lv_ldc S.1 S.2.1 S.2.2.2.1 (S.2.2.2.2 (.constant RX3 70 (-2147483648)) (by decide +kernel)) dX3_greatest_55 ?_
          refine lv_istore (lv' := [(4, .int (-2147483648 : Int32)), (0, .ref (ad 76)), (1, .int (nI j)), (2, .int lo), (3, .int hi)]) S.1 S.2.1 dX3_greatest_57 hl (by decide) rfl (fun ls hl => ?_)
          refine lv_iconst (v := (nI 0)) S.1 S.2.1 dX3_greatest_59 (by decide) ?_
          refine lv_istore (lv' := [(5, .int (nI 0)), (4, .int (-2147483648 : Int32)), (0, .ref (ad 76)), (1, .int (nI j)), (2, .int lo), (3, .int hi)]) S.1 S.2.1 dX3_greatest_60 hl (by decide) rfl (fun ls hl => ?_)
          have L_62 : ∀ (d9 : Nat) (b0 : Int32) (i : Nat) (H : Heap) (locs : List Loc), (i ≤ sz j) → (b0 = grF (of K j) (of V j) lo hi i) → (sz j - i) < d9 → ov_dy G 84 ad s0 s f_4 H locs → ∀ ls : Array Slot, lv_has ls 8 [(0, .ref (ad 76)), (1, .int (nI j)), (2, .int lo), (3, .int hi), (4, .int b0), (5, .int (nI i))] → W p l e (ov_rm 4 91 0 0) s m av below meth c H locs 0 0 Q (F0 m 62 ls []) := by
            intro d9
            induction d9 with
            | zero => intro b0 i H locs hi9 hc h9; exact absurd h9 (Nat.not_lt_zero _)
            | succ d9 ih_62 =>
              intro b0 i H locs hi9 hc h9 hG ls hl
              refine lv_iload S.1 S.2.1 dX3_greatest_62 (lv_at hl 5 rfl) ?_
              refine lv_aload_n S.1 S.2.1 dX3_greatest_64 rfl (lv_at hl 0 rfl) ?_
              refine o_get S hG i_X3 (by decide) hM.1 rfl 3 (by decide) kf_16 rfl dX3_greatest_65 ?_
              refine lv_iload_n S.1 S.2.1 dX3_greatest_68 rfl (lv_at hl 1 rfl) ?_
              refine o_iald S hG (j := j) (by decide) hM.2.2.2.1 (by omega) dX3_greatest_69 (kk := ?_)
              refine n_ge S (a := i) (b := sz j) (tgt := 137) dX3_greatest_70 (by decide) (by omega) (by omega) (fun c_70 => ?_) (fun c_70 => ?_)
              · skip
                refine lv_iload S.1 S.2.1 dX3_greatest_137 (lv_at hl 4 rfl) ?_
                exact ret _ _ _ _ _ _ _ _ hG ⟨hO, Or.inl ⟨j, hj2, rfl, hj3, Or.inl ⟨c_32, by rw [hc, show i = sz j by omega], hM⟩⟩⟩ rfl (Nat.le_of_ble_eq_true rfl) (Nat.le_of_ble_eq_true rfl) dX3_greatest_139
              · skip
                refine lv_aload_n S.1 S.2.1 dX3_greatest_73 rfl (lv_at hl 0 rfl) ?_
                refine o_get S hG i_X3 (by decide) hM.1 rfl 1 (by decide) kf_7 rfl dX3_greatest_74 ?_
                refine lv_sipush (v := (nI 600)) S.1 S.2.1 dX3_greatest_77 (by decide) ?_
                refine lv_iload_n S.1 S.2.1 dX3_greatest_80 rfl (lv_at hl 1 rfl) ?_
                refine o_mul S (a := 600) (b := j) dX3_greatest_81 ?_
                refine lv_iload S.1 S.2.1 dX3_greatest_82 (lv_at hl 5 rfl) ?_
                refine o_add S (a := 600 * j) (b := i) dX3_greatest_84 ?_
                refine o_iald S hG (j := (600 * j) + i) (by decide) hM.2.1 (by omega) dX3_greatest_85 (kk := ?_)
                refine lv_istore (lv' := [(6, .int (K ((600 * j) + i))), (0, .ref (ad 76)), (1, .int (nI j)), (2, .int lo), (3, .int hi), (4, .int b0), (5, .int (nI i))]) S.1 S.2.1 dX3_greatest_86 hl (by decide) rfl (fun ls hl => ?_)
                refine lv_aload_n S.1 S.2.1 dX3_greatest_88 rfl (lv_at hl 1 rfl) ?_
                refine o_get S hG i_X3 (by decide) hM.1 rfl 2 (by decide) kf_13 rfl dX3_greatest_89 ?_
                refine lv_sipush (v := (nI 600)) S.1 S.2.1 dX3_greatest_92 (by decide) ?_
                refine lv_iload_n S.1 S.2.1 dX3_greatest_95 rfl (lv_at hl 2 rfl) ?_
                refine o_mul S (a := 600) (b := j) dX3_greatest_96 ?_
                refine lv_iload S.1 S.2.1 dX3_greatest_97 (lv_at hl 6 rfl) ?_
                refine o_add S (a := 600 * j) (b := i) dX3_greatest_99 ?_
                refine o_iald S hG (j := (600 * j) + i) (by decide) hM.2.2.1 (by omega) dX3_greatest_100 (kk := ?_)
                refine lv_istore (lv' := [(7, .int (V ((600 * j) + i))), (6, .int (K ((600 * j) + i))), (0, .ref (ad 76)), (1, .int (nI j)), (2, .int lo), (3, .int hi), (4, .int b0), (5, .int (nI i))]) S.1 S.2.1 dX3_greatest_101 hl (by decide) rfl (fun ls hl => ?_)
                refine lv_iload S.1 S.2.1 dX3_greatest_103 (lv_at hl 1 rfl) ?_
                refine lv_iload_n S.1 S.2.1 dX3_greatest_105 rfl (lv_at hl 4 rfl) ?_
                refine lv_icmp_lt (tgt := 127) S.1 S.2.1 dX3_greatest_106 (by decide) (fun c_106 => ?_) (fun c_106 => ?_)
                · skip
                  refine lv_iload S.1 S.2.1 dX3_greatest_127 (lv_at hl 6 rfl) ?_
                  refine lv_istore (lv' := [(4, .int b0), (7, .int (V ((600 * j) + i))), (6, .int (K ((600 * j) + i))), (0, .ref (ad 76)), (1, .int (nI j)), (2, .int lo), (3, .int hi), (5, .int (nI i))]) S.1 S.2.1 dX3_greatest_129 hl (by decide) rfl (fun ls hl => ?_)
                  refine lv_iinc (v := (nI (i + 1))) (lv' := [(5, .int (nI (i + 1))), (4, .int b0), (7, .int (V ((600 * j) + i))), (6, .int (K ((600 * j) + i))), (0, .ref (ad 76)), (1, .int (nI j)), (2, .int lo), (3, .int hi)]) S.1 S.2.1 dX3_greatest_131 hl (k := 7) rfl (nI_add i 1) (by decide) rfl (fun ls hl => ?_)
                  refine lv_goto (tgt := 62) S.1 S.2.1 dX3_greatest_134 (by decide) ?_
                  exact ih_62 b0 (i + 1) _ _ (by omega) (by rw [grF, if_neg (fun q => i32_nlt q.1 c_106)]; exact hc) (by omega) hG ls (lv_sub hl [4, 5, 6, 7, 1, 0] rfl)
                · skip
                  refine lv_iload S.1 S.2.1 dX3_greatest_109 (lv_at hl 1 rfl) ?_
                  refine lv_iload_n S.1 S.2.1 dX3_greatest_111 rfl (lv_at hl 5 rfl) ?_
                  refine lv_icmp_gt (tgt := 127) S.1 S.2.1 dX3_greatest_112 (by decide) (fun c_112 => ?_) (fun c_112 => ?_)
                  · skip
                    refine lv_iload S.1 S.2.1 dX3_greatest_127 (lv_at hl 6 rfl) ?_
                    refine lv_istore (lv' := [(4, .int b0), (7, .int (V ((600 * j) + i))), (6, .int (K ((600 * j) + i))), (0, .ref (ad 76)), (1, .int (nI j)), (2, .int lo), (3, .int hi), (5, .int (nI i))]) S.1 S.2.1 dX3_greatest_129 hl (by decide) rfl (fun ls hl => ?_)
                    refine lv_iinc (v := (nI (i + 1))) (lv' := [(5, .int (nI (i + 1))), (4, .int b0), (7, .int (V ((600 * j) + i))), (6, .int (K ((600 * j) + i))), (0, .ref (ad 76)), (1, .int (nI j)), (2, .int lo), (3, .int hi)]) S.1 S.2.1 dX3_greatest_131 hl (k := 7) rfl (nI_add i 1) (by decide) rfl (fun ls hl => ?_)
                    refine lv_goto (tgt := 62) S.1 S.2.1 dX3_greatest_134 (by decide) ?_
                    exact ih_62 b0 (i + 1) _ _ (by omega) (by rw [grF, if_neg (fun q => i32_nlt q.2.1 c_112)]; exact hc) (by omega) hG ls (lv_sub hl [4, 5, 6, 7, 1, 0] rfl)
                  · skip
                    refine lv_iload S.1 S.2.1 dX3_greatest_115 (lv_at hl 0 rfl) ?_
                    refine lv_iload S.1 S.2.1 dX3_greatest_117 (lv_at hl 6 rfl) ?_
                    refine lv_icmp_le (tgt := 127) S.1 S.2.1 dX3_greatest_119 (by decide) (fun c_119 => ?_) (fun c_119 => ?_)
                    · skip
                      refine lv_iload S.1 S.2.1 dX3_greatest_127 (lv_at hl 6 rfl) ?_
                      refine lv_istore (lv' := [(4, .int b0), (7, .int (V ((600 * j) + i))), (6, .int (K ((600 * j) + i))), (0, .ref (ad 76)), (1, .int (nI j)), (2, .int lo), (3, .int hi), (5, .int (nI i))]) S.1 S.2.1 dX3_greatest_129 hl (by decide) rfl (fun ls hl => ?_)
                      refine lv_iinc (v := (nI (i + 1))) (lv' := [(5, .int (nI (i + 1))), (4, .int b0), (7, .int (V ((600 * j) + i))), (6, .int (K ((600 * j) + i))), (0, .ref (ad 76)), (1, .int (nI j)), (2, .int lo), (3, .int hi)]) S.1 S.2.1 dX3_greatest_131 hl (k := 7) rfl (nI_add i 1) (by decide) rfl (fun ls hl => ?_)
                      refine lv_goto (tgt := 62) S.1 S.2.1 dX3_greatest_134 (by decide) ?_
                      exact ih_62 b0 (i + 1) _ _ (by omega) (by rw [grF, if_neg (fun q => i32_nlt c_119 (by rw [hc]; exact q.2.2))]; exact hc) (by omega) hG ls (lv_sub hl [4, 5, 6, 7, 1, 0] rfl)
                    · skip
                      refine lv_iload S.1 S.2.1 dX3_greatest_122 (lv_at hl 0 rfl) ?_
                      refine lv_goto (tgt := 129) S.1 S.2.1 dX3_greatest_124 (by decide) ?_
                      refine lv_istore (lv' := [(4, .int (V ((600 * j) + i))), (7, .int (V ((600 * j) + i))), (6, .int (K ((600 * j) + i))), (0, .ref (ad 76)), (1, .int (nI j)), (2, .int lo), (3, .int hi), (5, .int (nI i))]) S.1 S.2.1 dX3_greatest_129 hl (by decide) rfl (fun ls hl => ?_)
                      refine lv_iinc (v := (nI (i + 1))) (lv' := [(5, .int (nI (i + 1))), (4, .int (V ((600 * j) + i))), (7, .int (V ((600 * j) + i))), (6, .int (K ((600 * j) + i))), (0, .ref (ad 76)), (1, .int (nI j)), (2, .int lo), (3, .int hi)]) S.1 S.2.1 dX3_greatest_131 hl (k := 7) rfl (nI_add i 1) (by decide) rfl (fun ls hl => ?_)
                      refine lv_goto (tgt := 62) S.1 S.2.1 dX3_greatest_134 (by decide) ?_
                      exact ih_62 (V ((600 * j) + i)) (i + 1) _ _ (by omega) (by rw [grF, if_pos ⟨i32_of_nlt c_106, i32_of_nlt c_112, by rw [← hc]; exact i32_of_nle c_119⟩]; rfl) (by omega) hG ls (lv_sub hl [4, 5, 6, 7, 1, 0] rfl)
          exact L_62 _ (-2147483648) 0 _ _ (Nat.zero_le _) rfl (Nat.lt_succ_self _) hG ls (lv_sub hl [2, 3, 4, 5, 1, 0] rfl)
        · skip
          exact absurd c_50 (by decide)
      · skip
        refine lv_iconst (v := (nI 2)) S.1 S.2.1 dX3_greatest_35 (by decide) ?_
        refine lv_goto (tgt := 43) S.1 S.2.1 dX3_greatest_36 (by decide) ?_
        refine o_put S hG i_X3 tyX3_ok nmX3 (by decide) hM.1 rfl 0 (by decide) kf_29 rfl rfl rfl (Nat.le_of_ble_eq_true rfl) dX3_greatest_43 (fun H locs hG => ?_)
        obtain ⟨f_5, ef_5, hG⟩ := ov_name hG
        have hM := hM.u0 (cd2 := 2) ef_5
        have hO := hO.up ef_5 (by decide)
        refine lv_aload_n S.1 S.2.1 dX3_greatest_46 rfl (lv_at hl 0 rfl) ?_
        refine o_get S hG i_X3 (by decide) hM.1 rfl 0 (by decide) kf_29 rfl dX3_greatest_47 ?_
        refine lv_if_le (tgt := 55) S.1 S.2.1 dX3_greatest_50 (by decide) (fun c_50 => ?_) (fun c_50 => ?_)
        · skip
          exact absurd c_50 (by decide)
        · skip
          refine lv_iconst (v := (nI 0)) S.1 S.2.1 dX3_greatest_53 (by decide) ?_
          exact ret _ _ _ _ _ _ _ _ hG ⟨hO, Or.inl ⟨j, hj2, rfl, hj3, Or.inr ⟨c_32, hM⟩⟩⟩ rfl (Nat.le_of_ble_eq_true rfl) (Nat.le_of_ble_eq_true rfl) dX3_greatest_54

theorem sh_m1 {n2 : Nat} {k2 v2 k v : Nat → Int32} {i : Nat} (h : hs n2 k2 (k i) = true) (h2 : v2 (bel n2 k2 (k i)) = v i) : sh n2 k2 v2 true k v i = true := by
  unfold sh; rw [h, decide_eq_true h2]; rfl
theorem sh_m2 {n2 : Nat} {k2 v2 k v : Nat → Int32} {i : Nat} (h2 : ¬ v2 (bel n2 k2 (k i)) = v i) : sh n2 k2 v2 true k v i = false := by
  unfold sh; rw [decide_eq_false h2]; simp
theorem sh_m3 {n2 : Nat} {k2 v2 k v : Nat → Int32} {i : Nat} (h : hs n2 k2 (k i) = false) : sh n2 k2 v2 true k v i = false := by
  unfold sh; rw [h]; rfl

set_option maxHeartbeats 4000000 in
set_option maxRecDepth 100000 in
theorem c_X3_isOther (l : Launch) (G : Gx) (ad : Nat → Nat) (s0 : Nat) (f : Nat → va_E) (cd : Nat) (K V : Nat → Int32) (sz : Nat → Nat) (th : Nat → Bool) (pl : Nat → Int) (dn : Nat → Bool) (j i d : Nat) (hM : MB G ad f cd K V sz th pl dn) (hj : j < 21) (hd : d < 21) (hi : i < 600) (hn : sz d ≤ 600) : mI l yX3_isOther wsX3_isOther 2 46 0 0 [.ref (ad 76), .int (nI j), .int (nI i), .int (nI d)] G 84 ad s0 f (fun r f' => f = f' ∧ r = bI (!sh (sz d) (of K d) (of V d) true (of K j) (of V j) i)) := by
  refine ov_mI (cc := cX3_isOther) (maxL := 5) (ty := .boolean) (by decide) rfl (Nat.le_of_ble_eq_true rfl) ?_
  intro p e s m below meth c av Q S ret hG ls hl
  have S : CallFix p m c cX3_isOther 5 s av wsX3_isOther RX3 := S
  have hl : lv_has ls 5 [(0, .ref (ad 76)), (1, .int (nI j)), (2, .int (nI i)), (3, .int (nI d))] := hl
  have i_X3 : ∀ w ∈ u_ws RX3 TX3 7, w ∈ wsX3_isOther := by decide +kernel
  have kf_7 := S.2.2.2.2 (.fieldLink RX3 7 "OrderedVersionsModel" "keys" "[I") (by decide +kernel)
  have kf_13 := S.2.2.2.2 (.fieldLink RX3 13 "OrderedVersionsModel" "values" "[I") (by decide +kernel)
  refine lv_aload_n S.1 S.2.1 dX3_isOther_0 rfl (lv_at hl 0 rfl) ?_
  refine o_get S hG i_X3 (by decide) hM.1 rfl 1 (by decide) kf_7 rfl dX3_isOther_1 ?_
  refine lv_sipush (v := (nI 600)) S.1 S.2.1 dX3_isOther_4 (by decide) ?_
  refine lv_iload_n S.1 S.2.1 dX3_isOther_7 rfl (lv_at hl 1 rfl) ?_
  refine o_mul S (a := 600) (b := j) dX3_isOther_8 ?_
  refine lv_iload_n S.1 S.2.1 dX3_isOther_9 rfl (lv_at hl 2 rfl) ?_
  refine o_add S (a := 600 * j) (b := i) dX3_isOther_10 ?_
  refine o_iald S hG (j := (600 * j) + i) (by decide) hM.2.1 (by omega) dX3_isOther_11 (kk := ?_)
  refine lv_istore (lv' := [(4, .int (K ((600 * j) + i))), (0, .ref (ad 76)), (1, .int (nI j)), (2, .int (nI i)), (3, .int (nI d))]) S.1 S.2.1 dX3_isOther_12 hl (by decide) rfl (fun ls hl => ?_)
  refine lv_aload_n S.1 S.2.1 dX3_isOther_14 rfl (lv_at hl 1 rfl) ?_
  refine lv_iload_n S.1 S.2.1 dX3_isOther_15 rfl (lv_at hl 4 rfl) ?_
  refine lv_iload S.1 S.2.1 dX3_isOther_16 (lv_at hl 0 rfl) ?_
  refine o_cVi S (rest := []) (c_X3_has l G ad s0 f cd K V sz th pl dn d (K ((600 * j) + i)) hM (by omega) (by omega)) (cwV 2 S.2.2.2.2 gX3_isOther_X3_has rfl rfl rfl (by decide +kernel) ⟨(Nat.le_of_ble_eq_true rfl), (Nat.le_of_ble_eq_true rfl)⟩) hG (by decide) hM.1 rfl rfl hl.1 rfl (Nat.le_of_ble_eq_true rfl) dX3_isOther_18 ⟨(Nat.le_of_ble_eq_true rfl), (Nat.le_of_ble_eq_true rfl)⟩ (fun r9 f9 H locs hp hG => ?_)
  obtain ⟨rfl, rfl⟩ := hp
  refine b_if_eq S (b := (hs (sz d) (of K d) (K ((600 * j) + i)))) (tgt := 57) dX3_isOther_21 (by decide) (fun c_21 => ?_) (fun c_21 => ?_)
  · skip
    refine lv_iconst (v := (nI 1)) S.1 S.2.1 dX3_isOther_57 (by decide) ?_
    refine lv_goto (tgt := 62) S.1 S.2.1 dX3_isOther_58 (by decide) ?_
    exact ret _ _ _ _ _ _ _ _ hG ⟨rfl, bI_t (by rw [sh_m3 (k := of K j) (v := of V j) (k2 := of K d) (v2 := of V d) (i := i) c_21]; rfl)⟩ rfl (Nat.le_of_ble_eq_true rfl) (Nat.le_of_ble_eq_true rfl) dX3_isOther_62
  · skip
    refine lv_aload_n S.1 S.2.1 dX3_isOther_24 rfl (lv_at hl 1 rfl) ?_
    refine o_get S hG i_X3 (by decide) hM.1 rfl 2 (by decide) kf_13 rfl dX3_isOther_25 ?_
    refine lv_sipush (v := (nI 600)) S.1 S.2.1 dX3_isOther_28 (by decide) ?_
    refine lv_iload_n S.1 S.2.1 dX3_isOther_31 rfl (lv_at hl 4 rfl) ?_
    refine o_mul S (a := 600) (b := d) dX3_isOther_32 ?_
    refine lv_aload_n S.1 S.2.1 dX3_isOther_33 rfl (lv_at hl 1 rfl) ?_
    refine lv_iload_n S.1 S.2.1 dX3_isOther_34 rfl (lv_at hl 4 rfl) ?_
    refine lv_iload S.1 S.2.1 dX3_isOther_35 (lv_at hl 0 rfl) ?_
    refine o_cVi S (rest := [.int (nI (600 * d)), .ref (ad 78)]) (c_X3_below l G ad s0 f cd K V sz th pl dn d (K ((600 * j) + i)) hM (by omega) (by omega)) (cwV 2 S.2.2.2.2 gX3_isOther_X3_below rfl rfl rfl (by decide +kernel) ⟨(Nat.le_of_ble_eq_true rfl), (Nat.le_of_ble_eq_true rfl)⟩) hG (by decide) hM.1 rfl rfl hl.1 rfl (Nat.le_of_ble_eq_true rfl) dX3_isOther_37 ⟨(Nat.le_of_ble_eq_true rfl), (Nat.le_of_ble_eq_true rfl)⟩ (fun r9 f9 H locs hp hG => ?_)
    obtain ⟨rfl, rfl⟩ := hp
    have lb_1 := bel_le (sz d) (of K d) (K ((600 * j) + i))
    refine o_add S (a := 600 * d) (b := bel (sz d) (of K d) (K ((600 * j) + i))) dX3_isOther_40 ?_
    refine o_iald S hG (j := (600 * d) + (bel (sz d) (of K d) (K ((600 * j) + i)))) (by decide) hM.2.2.1 (by have := hs_lt c_21; omega) dX3_isOther_41 (kk := ?_)
    refine lv_aload_n S.1 S.2.1 dX3_isOther_42 rfl (lv_at hl 1 rfl) ?_
    refine o_get S hG i_X3 (by decide) hM.1 rfl 2 (by decide) kf_13 rfl dX3_isOther_43 ?_
    refine lv_sipush (v := (nI 600)) S.1 S.2.1 dX3_isOther_46 (by decide) ?_
    refine lv_iload_n S.1 S.2.1 dX3_isOther_49 rfl (lv_at hl 2 rfl) ?_
    refine o_mul S (a := 600) (b := j) dX3_isOther_50 ?_
    refine lv_iload_n S.1 S.2.1 dX3_isOther_51 rfl (lv_at hl 3 rfl) ?_
    refine o_add S (a := 600 * j) (b := i) dX3_isOther_52 ?_
    refine o_iald S hG (j := (600 * j) + i) (by decide) hM.2.2.1 (by omega) dX3_isOther_53 (kk := ?_)
    refine lv_icmp_eq (tgt := 61) S.1 S.2.1 dX3_isOther_54 (by decide) (fun c_54 => ?_) (fun c_54 => ?_)
    · skip
      refine lv_iconst (v := (nI 0)) S.1 S.2.1 dX3_isOther_61 (by decide) ?_
      exact ret _ _ _ _ _ _ _ _ hG ⟨rfl, bI_f (by rw [sh_m1 (k := of K j) (v := of V j) (k2 := of K d) (v2 := of V d) (i := i) c_21 c_54]; rfl)⟩ rfl (Nat.le_of_ble_eq_true rfl) (Nat.le_of_ble_eq_true rfl) dX3_isOther_62
    · skip
      refine lv_iconst (v := (nI 1)) S.1 S.2.1 dX3_isOther_57 (by decide) ?_
      refine lv_goto (tgt := 62) S.1 S.2.1 dX3_isOther_58 (by decide) ?_
      exact ret _ _ _ _ _ _ _ _ hG ⟨rfl, bI_t (by rw [sh_m2 (k := of K j) (v := of V j) (k2 := of K d) (v2 := of V d) (i := i) c_54]; rfl)⟩ rfl (Nat.le_of_ble_eq_true rfl) (Nat.le_of_ble_eq_true rfl) dX3_isOther_62

set_option maxHeartbeats 4000000 in
set_option maxRecDepth 100000 in
theorem c_X3_differs (l : Launch) (G : Gx) (ad : Nat → Nat) (s0 : Nat) (f : Nat → va_E) (cd : Nat) (K V : Nat → Int32) (sz : Nat → Nat) (th : Nat → Bool) (pl : Nat → Int) (dn : Nat → Bool) (v o : Int32) (hM : MB G ad f cd K V sz th pl dn) (hW : ∀ j, j < 21 → th j = true → sz j ≤ 600) (h00 : th 0 = true) : mI l yX3_differs wsX3_differs 3 70 0 0 [.ref (ad 76), .int v, .int o] G 84 ad s0 f (fun r f' => OnM f f' ∧ ((∃ j d, j ≤ 12 ∧ d ≤ 12 ∧ v = nI j ∧ o = nI d ∧ th j = true ∧ th d = true ∧ r = nI (cnt (sz j) (fun z => !sh (sz d) (of K d) (of V d) true (of K j) (of V j) z) + cnt (sz d) (fun z => !hs (sz j) (of K j) (of K d z))) ∧ MB G ad f' 0 K V sz th pl dn) ∨ ((isv th v = false ∨ isv th o = false) ∧ MB G ad f' 1 K V sz th pl dn))) := by
  refine ov_mI (cc := cX3_differs) (maxL := 5) (ty := .int) (by decide) rfl (Nat.le_of_ble_eq_true rfl) ?_
  intro p e s m below meth c av Q S ret hG ls hl
  have S : CallFix p m c cX3_differs 5 s av wsX3_differs RX3 := S
  have hl : lv_has ls 5 [(0, .ref (ad 76)), (1, .int v), (2, .int o)] := hl
  have i_X3 : ∀ w ∈ u_ws RX3 TX3 7, w ∈ wsX3_differs := by decide +kernel
  have kf_7 := S.2.2.2.2 (.fieldLink RX3 7 "OrderedVersionsModel" "keys" "[I") (by decide +kernel)
  have kf_16 := S.2.2.2.2 (.fieldLink RX3 16 "OrderedVersionsModel" "sizes" "[I") (by decide +kernel)
  have kf_29 := S.2.2.2.2 (.fieldLink RX3 29 "OrderedVersionsModel" "code" "I") (by decide +kernel)
  have hO : OnM f f := OnM.rf
  refine lv_aload_n S.1 S.2.1 dX3_differs_0 rfl (lv_at hl 0 rfl) ?_
  refine lv_aload_n S.1 S.2.1 dX3_differs_1 rfl (lv_at hl 0 rfl) ?_
  refine lv_iload_n S.1 S.2.1 dX3_differs_2 rfl (lv_at hl 1 rfl) ?_
  refine o_cVi S (rest := [.ref (ad 76)]) (c_X3_isVersion l G ad s0 f cd K V sz th pl dn v hM ) (cwV 1 S.2.2.2.2 gX3_differs_X3_isVersion rfl rfl rfl (by decide +kernel) ⟨(Nat.le_of_ble_eq_true rfl), (Nat.le_of_ble_eq_true rfl)⟩) hG (by decide) hM.1 rfl rfl hl.1 rfl (Nat.le_of_ble_eq_true rfl) dX3_differs_3 ⟨(Nat.le_of_ble_eq_true rfl), (Nat.le_of_ble_eq_true rfl)⟩ (fun r9 f9 H locs hp hG => ?_)
  obtain ⟨rfl, rfl⟩ := hp
  refine b_if_eq S (b := (isv th v)) (tgt := 21) dX3_differs_6 (by decide) (fun c_6 => ?_) (fun c_6 => ?_)
  · skip
    refine lv_iconst (v := (nI 1)) S.1 S.2.1 dX3_differs_21 (by decide) ?_
    refine o_put S hG i_X3 tyX3_ok nmX3 (by decide) hM.1 rfl 0 (by decide) kf_29 rfl rfl rfl (Nat.le_of_ble_eq_true rfl) dX3_differs_22 (fun H locs hG => ?_)
    obtain ⟨f_1, ef_1, hG⟩ := ov_name hG
    have hM := hM.u0 (cd2 := 1) ef_1
    have hO := hO.up ef_1 (by decide)
    refine lv_aload_n S.1 S.2.1 dX3_differs_25 rfl (lv_at hl 0 rfl) ?_
    refine o_get S hG i_X3 (by decide) hM.1 rfl 0 (by decide) kf_29 rfl dX3_differs_26 ?_
    refine lv_if_le (tgt := 34) S.1 S.2.1 dX3_differs_29 (by decide) (fun c_29 => ?_) (fun c_29 => ?_)
    · skip
      exact absurd c_29 (by decide)
    · skip
      refine lv_iconst (v := (nI 0)) S.1 S.2.1 dX3_differs_32 (by decide) ?_
      exact ret _ _ _ _ _ _ _ _ hG ⟨hO, Or.inr ⟨Or.inl c_6, hM⟩⟩ rfl (Nat.le_of_ble_eq_true rfl) (Nat.le_of_ble_eq_true rfl) dX3_differs_33
  · skip
    obtain ⟨j, hj2, rfl, hj3⟩ := isv_ex c_6
    have hnj := hW j (by omega) hj3
    refine lv_aload_n S.1 S.2.1 dX3_differs_9 rfl (lv_at hl 0 rfl) ?_
    refine lv_iload_n S.1 S.2.1 dX3_differs_10 rfl (lv_at hl 2 rfl) ?_
    refine o_cVi S (rest := [.ref (ad 76)]) (c_X3_isVersion l G ad s0 f cd K V sz th pl dn o hM ) (cwV 1 S.2.2.2.2 gX3_differs_X3_isVersion rfl rfl rfl (by decide +kernel) ⟨(Nat.le_of_ble_eq_true rfl), (Nat.le_of_ble_eq_true rfl)⟩) hG (by decide) hM.1 rfl rfl hl.1 rfl (Nat.le_of_ble_eq_true rfl) dX3_differs_11 ⟨(Nat.le_of_ble_eq_true rfl), (Nat.le_of_ble_eq_true rfl)⟩ (fun r9 f9 H locs hp hG => ?_)
    obtain ⟨rfl, rfl⟩ := hp
    refine b_if_eq S (b := (isv th o)) (tgt := 21) dX3_differs_14 (by decide) (fun c_14 => ?_) (fun c_14 => ?_)
    · skip
      refine lv_iconst (v := (nI 1)) S.1 S.2.1 dX3_differs_21 (by decide) ?_
      refine o_put S hG i_X3 tyX3_ok nmX3 (by decide) hM.1 rfl 0 (by decide) kf_29 rfl rfl rfl (Nat.le_of_ble_eq_true rfl) dX3_differs_22 (fun H locs hG => ?_)
      obtain ⟨f_2, ef_2, hG⟩ := ov_name hG
      have hM := hM.u0 (cd2 := 1) ef_2
      have hO := hO.up ef_2 (by decide)
      refine lv_aload_n S.1 S.2.1 dX3_differs_25 rfl (lv_at hl 0 rfl) ?_
      refine o_get S hG i_X3 (by decide) hM.1 rfl 0 (by decide) kf_29 rfl dX3_differs_26 ?_
      refine lv_if_le (tgt := 34) S.1 S.2.1 dX3_differs_29 (by decide) (fun c_29 => ?_) (fun c_29 => ?_)
      · skip
        exact absurd c_29 (by decide)
      · skip
        refine lv_iconst (v := (nI 0)) S.1 S.2.1 dX3_differs_32 (by decide) ?_
        exact ret _ _ _ _ _ _ _ _ hG ⟨hO, Or.inr ⟨Or.inr c_14, hM⟩⟩ rfl (Nat.le_of_ble_eq_true rfl) (Nat.le_of_ble_eq_true rfl) dX3_differs_33
    · skip
      obtain ⟨d, hd2, rfl, hd3⟩ := isv_ex c_14
      have hnd := hW d (by omega) hd3
      refine lv_iconst (v := (nI 0)) S.1 S.2.1 dX3_differs_17 (by decide) ?_
      refine lv_goto (tgt := 22) S.1 S.2.1 dX3_differs_18 (by decide) ?_
      refine o_put S hG i_X3 tyX3_ok nmX3 (by decide) hM.1 rfl 0 (by decide) kf_29 rfl rfl rfl (Nat.le_of_ble_eq_true rfl) dX3_differs_22 (fun H locs hG => ?_)
      obtain ⟨f_3, ef_3, hG⟩ := ov_name hG
      have hM := hM.u0 (cd2 := 0) ef_3
      have hO := hO.up ef_3 (by decide)
      refine lv_aload_n S.1 S.2.1 dX3_differs_25 rfl (lv_at hl 0 rfl) ?_
      refine o_get S hG i_X3 (by decide) hM.1 rfl 0 (by decide) kf_29 rfl dX3_differs_26 ?_
      refine lv_if_le (tgt := 34) S.1 S.2.1 dX3_differs_29 (by decide) (fun c_29 => ?_) (fun c_29 => ?_)
      · skip
        refine lv_iconst (v := (nI 0)) S.1 S.2.1 dX3_differs_34 (by decide) ?_
        refine lv_istore_n (lv' := [(3, .int (nI 0)), (0, .ref (ad 76)), (1, .int (nI j)), (2, .int (nI d))]) S.1 S.2.1 dX3_differs_35 rfl hl (by decide) rfl (fun ls hl => ?_)
        refine lv_iconst (v := (nI 0)) S.1 S.2.1 dX3_differs_36 (by decide) ?_
        refine lv_istore (lv' := [(4, .int (nI 0)), (3, .int (nI 0)), (0, .ref (ad 76)), (1, .int (nI j)), (2, .int (nI d))]) S.1 S.2.1 dX3_differs_37 hl (by decide) rfl (fun ls hl => ?_)
        have L_39 : ∀ (d9 : Nat) (c0 : Nat) (i : Nat) (H : Heap) (locs : List Loc), (i ≤ sz j) → (c0 = cnt i (fun z => !sh (sz d) (of K d) (of V d) true (of K j) (of V j) z)) → (sz j - i) < d9 → ov_dy G 84 ad s0 s f_3 H locs → ∀ ls : Array Slot, lv_has ls 5 [(0, .ref (ad 76)), (1, .int (nI j)), (2, .int (nI d)), (3, .int (nI c0)), (4, .int (nI i))] → W p l e (ov_rm 3 70 0 0) s m av below meth c H locs 0 0 Q (F0 m 39 ls []) := by
          intro d9
          induction d9 with
          | zero => intro c0 i H locs hi9 hc h9; exact absurd h9 (Nat.not_lt_zero _)
          | succ d9 ih_39 =>
            intro c0 i H locs hi9 hc h9 hG ls hl
            refine lv_iload S.1 S.2.1 dX3_differs_39 (lv_at hl 4 rfl) ?_
            refine lv_aload_n S.1 S.2.1 dX3_differs_41 rfl (lv_at hl 0 rfl) ?_
            refine o_get S hG i_X3 (by decide) hM.1 rfl 3 (by decide) kf_16 rfl dX3_differs_42 ?_
            refine lv_iload_n S.1 S.2.1 dX3_differs_45 rfl (lv_at hl 1 rfl) ?_
            refine o_iald S hG (j := j) (by decide) hM.2.2.2.1 (by omega) dX3_differs_46 (kk := ?_)
            refine n_ge S (a := i) (b := sz j) (tgt := 75) dX3_differs_47 (by decide) (by omega) (by omega) (fun c_47 => ?_) (fun c_47 => ?_)
            · skip
              refine lv_iconst (v := (nI 0)) S.1 S.2.1 dX3_differs_75 (by decide) ?_
              refine lv_istore (lv' := [(4, .int (nI 0)), (0, .ref (ad 76)), (1, .int (nI j)), (2, .int (nI d)), (3, .int (nI c0))]) S.1 S.2.1 dX3_differs_76 hl (by decide) rfl (fun ls hl => ?_)
              have L_78 : ∀ (d9 : Nat) (c0 : Nat) (i : Nat) (H : Heap) (locs : List Loc), (i ≤ sz d) → (c0 = cnt (sz j) (fun z => !sh (sz d) (of K d) (of V d) true (of K j) (of V j) z) + cnt i (fun z => !hs (sz j) (of K j) (of K d z))) → (sz d - i) < d9 → ov_dy G 84 ad s0 s f_3 H locs → ∀ ls : Array Slot, lv_has ls 5 [(0, .ref (ad 76)), (1, .int (nI j)), (2, .int (nI d)), (3, .int (nI c0)), (4, .int (nI i))] → W p l e (ov_rm 3 70 0 0) s m av below meth c H locs 0 0 Q (F0 m 78 ls []) := by
                intro d9
                induction d9 with
                | zero => intro c0 i H locs hi9 hc h9; exact absurd h9 (Nat.not_lt_zero _)
                | succ d9 ih_78 =>
                  intro c0 i H locs hi9 hc h9 hG ls hl
                  refine lv_iload S.1 S.2.1 dX3_differs_78 (lv_at hl 4 rfl) ?_
                  refine lv_aload_n S.1 S.2.1 dX3_differs_80 rfl (lv_at hl 0 rfl) ?_
                  refine o_get S hG i_X3 (by decide) hM.1 rfl 3 (by decide) kf_16 rfl dX3_differs_81 ?_
                  refine lv_iload_n S.1 S.2.1 dX3_differs_84 rfl (lv_at hl 2 rfl) ?_
                  refine o_iald S hG (j := d) (by decide) hM.2.2.2.1 (by omega) dX3_differs_85 (kk := ?_)
                  refine n_ge S (a := i) (b := sz d) (tgt := 124) dX3_differs_86 (by decide) (by omega) (by omega) (fun c_86 => ?_) (fun c_86 => ?_)
                  · skip
                    refine lv_iload_n S.1 S.2.1 dX3_differs_124 rfl (lv_at hl 3 rfl) ?_
                    exact ret _ _ _ _ _ _ _ _ hG ⟨hO, Or.inl ⟨j, d, hj2, hd2, rfl, rfl, hj3, hd3, by rw [hc, show i = sz d by omega], hM⟩⟩ rfl (Nat.le_of_ble_eq_true rfl) (Nat.le_of_ble_eq_true rfl) dX3_differs_125
                  · skip
                    refine lv_iload_n S.1 S.2.1 dX3_differs_89 rfl (lv_at hl 3 rfl) ?_
                    refine lv_aload_n S.1 S.2.1 dX3_differs_90 rfl (lv_at hl 0 rfl) ?_
                    refine lv_iload_n S.1 S.2.1 dX3_differs_91 rfl (lv_at hl 1 rfl) ?_
                    refine lv_aload_n S.1 S.2.1 dX3_differs_92 rfl (lv_at hl 0 rfl) ?_
                    refine o_get S hG i_X3 (by decide) hM.1 rfl 1 (by decide) kf_7 rfl dX3_differs_93 ?_
                    refine lv_sipush (v := (nI 600)) S.1 S.2.1 dX3_differs_96 (by decide) ?_
                    refine lv_iload_n S.1 S.2.1 dX3_differs_99 rfl (lv_at hl 2 rfl) ?_
                    refine o_mul S (a := 600) (b := d) dX3_differs_100 ?_
                    refine lv_iload S.1 S.2.1 dX3_differs_101 (lv_at hl 4 rfl) ?_
                    refine o_add S (a := 600 * d) (b := i) dX3_differs_103 ?_
                    refine o_iald S hG (j := (600 * d) + i) (by decide) hM.2.1 (by omega) dX3_differs_104 (kk := ?_)
                    refine o_cVi S (rest := [.int (nI c0)]) (c_X3_has l G ad s0 f_3 0 K V sz th pl dn j (K ((600 * d) + i)) hM (by omega) (by omega)) (cwV 2 S.2.2.2.2 gX3_differs_X3_has rfl rfl rfl (by decide +kernel) ⟨(Nat.le_of_ble_eq_true rfl), (Nat.le_of_ble_eq_true rfl)⟩) hG (by decide) hM.1 rfl rfl hl.1 rfl (Nat.le_of_ble_eq_true rfl) dX3_differs_105 ⟨(Nat.le_of_ble_eq_true rfl), (Nat.le_of_ble_eq_true rfl)⟩ (fun r9 f9 H locs hp hG => ?_)
                    obtain ⟨rfl, rfl⟩ := hp
                    refine b_if_eq S (b := (hs (sz j) (of K j) (K ((600 * d) + i)))) (tgt := 115) dX3_differs_108 (by decide) (fun c_108 => ?_) (fun c_108 => ?_)
                    · skip
                      refine lv_iconst (v := (nI 1)) S.1 S.2.1 dX3_differs_115 (by decide) ?_
                      refine o_add S (a := c0) (b := 1) dX3_differs_116 ?_
                      refine lv_istore_n (lv' := [(3, .int (nI (c0 + 1))), (0, .ref (ad 76)), (1, .int (nI j)), (2, .int (nI d)), (4, .int (nI i))]) S.1 S.2.1 dX3_differs_117 rfl hl (by decide) rfl (fun ls hl => ?_)
                      refine lv_iinc (v := (nI (i + 1))) (lv' := [(4, .int (nI (i + 1))), (3, .int (nI (c0 + 1))), (0, .ref (ad 76)), (1, .int (nI j)), (2, .int (nI d))]) S.1 S.2.1 dX3_differs_118 hl (k := 4) rfl (nI_add i 1) (by decide) rfl (fun ls hl => ?_)
                      refine lv_goto (tgt := 78) S.1 S.2.1 dX3_differs_121 (by decide) ?_
                      exact ih_78 (c0 + 1) (i + 1) _ _ (by omega) (by rw [hc]; exact (congrArg (_ + ·) (cnt_t (n := i) (p := (fun z => !hs (sz j) (of K j) (of K d z))) (congrArg Bool.not c_108))).symm) (by omega) hG ls (lv_sub hl [2, 3, 4, 1, 0] rfl)
                    · skip
                      refine lv_iconst (v := (nI 0)) S.1 S.2.1 dX3_differs_111 (by decide) ?_
                      refine lv_goto (tgt := 116) S.1 S.2.1 dX3_differs_112 (by decide) ?_
                      refine o_add S (a := c0) (b := 0) dX3_differs_116 ?_
                      refine lv_istore_n (lv' := [(3, .int (nI (c0 + 0))), (0, .ref (ad 76)), (1, .int (nI j)), (2, .int (nI d)), (4, .int (nI i))]) S.1 S.2.1 dX3_differs_117 rfl hl (by decide) rfl (fun ls hl => ?_)
                      refine lv_iinc (v := (nI (i + 1))) (lv' := [(4, .int (nI (i + 1))), (3, .int (nI (c0 + 0))), (0, .ref (ad 76)), (1, .int (nI j)), (2, .int (nI d))]) S.1 S.2.1 dX3_differs_118 hl (k := 4) rfl (nI_add i 1) (by decide) rfl (fun ls hl => ?_)
                      refine lv_goto (tgt := 78) S.1 S.2.1 dX3_differs_121 (by decide) ?_
                      exact ih_78 (c0 + 0) (i + 1) _ _ (by omega) (by rw [hc]; exact (congrArg (_ + ·) (cnt_f (n := i) (p := (fun z => !hs (sz j) (of K j) (of K d z))) (congrArg Bool.not c_108))).symm) (by omega) hG ls (lv_sub hl [2, 3, 4, 1, 0] rfl)
              exact L_78 _ c0 0 _ _ (Nat.zero_le _) (by rw [hc, show i = sz j by omega]; rfl) (Nat.lt_succ_self _) hG ls (lv_sub hl [1, 2, 3, 4, 0] rfl)
            · skip
              refine lv_iload_n S.1 S.2.1 dX3_differs_50 rfl (lv_at hl 3 rfl) ?_
              refine lv_aload_n S.1 S.2.1 dX3_differs_51 rfl (lv_at hl 0 rfl) ?_
              refine lv_iload_n S.1 S.2.1 dX3_differs_52 rfl (lv_at hl 1 rfl) ?_
              refine lv_iload S.1 S.2.1 dX3_differs_53 (lv_at hl 4 rfl) ?_
              refine lv_iload_n S.1 S.2.1 dX3_differs_55 rfl (lv_at hl 2 rfl) ?_
              refine o_cVi S (rest := [.int (nI c0)]) (c_X3_isOther l G ad s0 f_3 0 K V sz th pl dn j i d hM (by omega) (by omega) (by omega) (by omega)) (cwV 3 S.2.2.2.2 gX3_differs_X3_isOther rfl rfl rfl (by decide +kernel) ⟨(Nat.le_of_ble_eq_true rfl), (Nat.le_of_ble_eq_true rfl)⟩) hG (by decide) hM.1 rfl rfl hl.1 rfl (Nat.le_of_ble_eq_true rfl) dX3_differs_56 ⟨(Nat.le_of_ble_eq_true rfl), (Nat.le_of_ble_eq_true rfl)⟩ (fun r9 f9 H locs hp hG => ?_)
              obtain ⟨rfl, rfl⟩ := hp
              refine b_if_eq S (b := (!sh (sz d) (of K d) (of V d) true (of K j) (of V j) i)) (tgt := 66) dX3_differs_59 (by decide) (fun c_59 => ?_) (fun c_59 => ?_)
              · skip
                refine lv_iconst (v := (nI 0)) S.1 S.2.1 dX3_differs_66 (by decide) ?_
                refine o_add S (a := c0) (b := 0) dX3_differs_67 ?_
                refine lv_istore_n (lv' := [(3, .int (nI (c0 + 0))), (0, .ref (ad 76)), (1, .int (nI j)), (2, .int (nI d)), (4, .int (nI i))]) S.1 S.2.1 dX3_differs_68 rfl hl (by decide) rfl (fun ls hl => ?_)
                refine lv_iinc (v := (nI (i + 1))) (lv' := [(4, .int (nI (i + 1))), (3, .int (nI (c0 + 0))), (0, .ref (ad 76)), (1, .int (nI j)), (2, .int (nI d))]) S.1 S.2.1 dX3_differs_69 hl (k := 4) rfl (nI_add i 1) (by decide) rfl (fun ls hl => ?_)
                refine lv_goto (tgt := 39) S.1 S.2.1 dX3_differs_72 (by decide) ?_
                exact ih_39 (c0 + 0) (i + 1) _ _ (by omega) (by rw [hc]; exact (cnt_f (n := i) (p := (fun z => !sh (sz d) (of K d) (of V d) true (of K j) (of V j) z)) c_59).symm) (by omega) hG ls (lv_sub hl [2, 3, 4, 1, 0] rfl)
              · skip
                refine lv_iconst (v := (nI 1)) S.1 S.2.1 dX3_differs_62 (by decide) ?_
                refine lv_goto (tgt := 67) S.1 S.2.1 dX3_differs_63 (by decide) ?_
                refine o_add S (a := c0) (b := 1) dX3_differs_67 ?_
                refine lv_istore_n (lv' := [(3, .int (nI (c0 + 1))), (0, .ref (ad 76)), (1, .int (nI j)), (2, .int (nI d)), (4, .int (nI i))]) S.1 S.2.1 dX3_differs_68 rfl hl (by decide) rfl (fun ls hl => ?_)
                refine lv_iinc (v := (nI (i + 1))) (lv' := [(4, .int (nI (i + 1))), (3, .int (nI (c0 + 1))), (0, .ref (ad 76)), (1, .int (nI j)), (2, .int (nI d))]) S.1 S.2.1 dX3_differs_69 hl (k := 4) rfl (nI_add i 1) (by decide) rfl (fun ls hl => ?_)
                refine lv_goto (tgt := 39) S.1 S.2.1 dX3_differs_72 (by decide) ?_
                exact ih_39 (c0 + 1) (i + 1) _ _ (by omega) (by rw [hc]; exact (cnt_t (n := i) (p := (fun z => !sh (sz d) (of K d) (of V d) true (of K j) (of V j) z)) c_59).symm) (by omega) hG ls (lv_sub hl [2, 3, 4, 1, 0] rfl)
        exact L_39 _ 0 0 _ _ (Nat.zero_le _) rfl (Nat.lt_succ_self _) hG ls (lv_sub hl [2, 3, 4, 1, 0] rfl)
      · skip
        exact absurd c_29 (by decide)

set_option maxHeartbeats 4000000 in
set_option maxRecDepth 100000 in
theorem c_X3_firstOther (l : Launch) (G : Gx) (ad : Nat → Nat) (s0 : Nat) (f : Nat → va_E) (cd : Nat) (K V : Nat → Int32) (sz : Nat → Nat) (th : Nat → Bool) (pl : Nat → Int) (dn : Nat → Bool) (j d : Nat) (hM : MB G ad f cd K V sz th pl dn) (hj : j < 21) (hd : d < 21) (hnj : sz j ≤ 600) (hnd : sz d ≤ 600) : mI l yX3_firstOther wsX3_firstOther 3 70 0 0 [.ref (ad 76), .int (nI j), .int (nI d)] G 84 ad s0 f (fun r f' => f = f' ∧ ∃ i, r = nI i ∧ i ≤ sz j ∧ (∀ z, z < i → sh (sz d) (of K d) (of V d) true (of K j) (of V j) z = true) ∧ (i < sz j → sh (sz d) (of K d) (of V d) true (of K j) (of V j) i = false)) := by
  refine ov_mI (cc := cX3_firstOther) (maxL := 4) (ty := .int) (by decide) rfl (Nat.le_of_ble_eq_true rfl) ?_
  intro p e s m below meth c av Q S ret hG ls hl
  have S : CallFix p m c cX3_firstOther 4 s av wsX3_firstOther RX3 := S
  have hl : lv_has ls 4 [(0, .ref (ad 76)), (1, .int (nI j)), (2, .int (nI d))] := hl
  have i_X3 : ∀ w ∈ u_ws RX3 TX3 7, w ∈ wsX3_firstOther := by decide +kernel
  have kf_16 := S.2.2.2.2 (.fieldLink RX3 16 "OrderedVersionsModel" "sizes" "[I") (by decide +kernel)
  refine lv_iconst (v := (nI 0)) S.1 S.2.1 dX3_firstOther_0 (by decide) ?_
  refine lv_istore_n (lv' := [(3, .int (nI 0)), (0, .ref (ad 76)), (1, .int (nI j)), (2, .int (nI d))]) S.1 S.2.1 dX3_firstOther_1 rfl hl (by decide) rfl (fun ls hl => ?_)
  have L_2 : ∀ (d9 : Nat) (i : Nat) (H : Heap) (locs : List Loc), (i ≤ sz j) → (∀ z, z < i → sh (sz d) (of K d) (of V d) true (of K j) (of V j) z = true) → (sz j - i) < d9 → ov_dy G 84 ad s0 s f H locs → ∀ ls : Array Slot, lv_has ls 4 [(0, .ref (ad 76)), (1, .int (nI j)), (2, .int (nI d)), (3, .int (nI i))] → W p l e (ov_rm 3 70 0 0) s m av below meth c H locs 0 0 Q (F0 m 2 ls []) := by
    intro d9
    induction d9 with
    | zero => intro i H locs hi9 hlo h9; exact absurd h9 (Nat.not_lt_zero _)
    | succ d9 ih_2 =>
      intro i H locs hi9 hlo h9 hG ls hl
      refine lv_iload_n S.1 S.2.1 dX3_firstOther_2 rfl (lv_at hl 3 rfl) ?_
      refine lv_aload_n S.1 S.2.1 dX3_firstOther_3 rfl (lv_at hl 0 rfl) ?_
      refine o_get S hG i_X3 (by decide) hM.1 rfl 3 (by decide) kf_16 rfl dX3_firstOther_4 ?_
      refine lv_iload_n S.1 S.2.1 dX3_firstOther_7 rfl (lv_at hl 1 rfl) ?_
      refine o_iald S hG (j := j) (by decide) hM.2.2.2.1 (by omega) dX3_firstOther_8 (kk := ?_)
      refine n_ge S (a := i) (b := sz j) (tgt := 28) dX3_firstOther_9 (by decide) (by omega) (by omega) (fun c_9 => ?_) (fun c_9 => ?_)
      · skip
        refine lv_iload_n S.1 S.2.1 dX3_firstOther_28 rfl (lv_at hl 3 rfl) ?_
        exact ret _ _ _ _ _ _ _ _ hG ⟨rfl, i, rfl, hi9, hlo, fun h => absurd h (by omega)⟩ rfl (Nat.le_of_ble_eq_true rfl) (Nat.le_of_ble_eq_true rfl) dX3_firstOther_29
      · skip
        refine lv_aload_n S.1 S.2.1 dX3_firstOther_12 rfl (lv_at hl 0 rfl) ?_
        refine lv_iload_n S.1 S.2.1 dX3_firstOther_13 rfl (lv_at hl 1 rfl) ?_
        refine lv_iload_n S.1 S.2.1 dX3_firstOther_14 rfl (lv_at hl 3 rfl) ?_
        refine lv_iload_n S.1 S.2.1 dX3_firstOther_15 rfl (lv_at hl 2 rfl) ?_
        refine o_cVi S (rest := []) (c_X3_isOther l G ad s0 f cd K V sz th pl dn j i d hM (by omega) (by omega) (by omega) (by omega)) (cwV 3 S.2.2.2.2 gX3_firstOther_X3_isOther rfl rfl rfl (by decide +kernel) ⟨(Nat.le_of_ble_eq_true rfl), (Nat.le_of_ble_eq_true rfl)⟩) hG (by decide) hM.1 rfl rfl hl.1 rfl (Nat.le_of_ble_eq_true rfl) dX3_firstOther_16 ⟨(Nat.le_of_ble_eq_true rfl), (Nat.le_of_ble_eq_true rfl)⟩ (fun r9 f9 H locs hp hG => ?_)
        obtain ⟨rfl, rfl⟩ := hp
        refine b_if_ne S (b := (!sh (sz d) (of K d) (of V d) true (of K j) (of V j) i)) (tgt := 28) dX3_firstOther_19 (by decide) (fun c_19 => ?_) (fun c_19 => ?_)
        · skip
          refine lv_iload_n S.1 S.2.1 dX3_firstOther_28 rfl (lv_at hl 3 rfl) ?_
          exact ret _ _ _ _ _ _ _ _ hG ⟨rfl, i, rfl, hi9, hlo, fun _ => by simpa using c_19⟩ rfl (Nat.le_of_ble_eq_true rfl) (Nat.le_of_ble_eq_true rfl) dX3_firstOther_29
        · skip
          refine lv_iinc (v := (nI (i + 1))) (lv' := [(3, .int (nI (i + 1))), (0, .ref (ad 76)), (1, .int (nI j)), (2, .int (nI d))]) S.1 S.2.1 dX3_firstOther_22 hl (k := 3) rfl (nI_add i 1) (by decide) rfl (fun ls hl => ?_)
          refine lv_goto (tgt := 2) S.1 S.2.1 dX3_firstOther_25 (by decide) ?_
          exact ih_2 (i + 1) _ _ (by omega) (lt_s hlo (by simpa using c_19)) (by omega) hG ls (lv_sub hl [1, 2, 3, 0] rfl)
  exact L_2 _ 0 _ _ (Nat.zero_le _) (fun z h => absurd h (Nat.not_lt_zero _)) (Nat.lt_succ_self _) hG ls (lv_sub hl [1, 2, 3, 0] rfl)

set_option maxHeartbeats 4000000 in
set_option maxRecDepth 100000 in
theorem c_X3_firstDifference (l : Launch) (G : Gx) (ad : Nat → Nat) (s0 : Nat) (f : Nat → va_E) (cd : Nat) (K V : Nat → Int32) (sz : Nat → Nat) (th : Nat → Bool) (pl : Nat → Int) (dn : Nat → Bool) (v o : Int32) (hM : MB G ad f cd K V sz th pl dn) (hW : ∀ j, j < 21 → th j = true → sz j ≤ 600) (h00 : th 0 = true) : mI l yX3_firstDifference wsX3_firstDifference 4 93 0 0 [.ref (ad 76), .int v, .int o] G 84 ad s0 f (fun r f' => OnM f f' ∧ ((∃ j d, j ≤ 12 ∧ d ≤ 12 ∧ v = nI j ∧ o = nI d ∧ th j = true ∧ th d = true ∧ ∃ a b, a ≤ sz j ∧ (∀ z, z < a → sh (sz d) (of K d) (of V d) true (of K j) (of V j) z = true) ∧ (a < sz j → sh (sz d) (of K d) (of V d) true (of K j) (of V j) a = false) ∧ b ≤ sz d ∧ (∀ z, z < b → sh (sz j) (of K j) (of V j) true (of K d) (of V d) z = true) ∧ (b < sz d → sh (sz j) (of K j) (of V j) true (of K d) (of V d) b = false) ∧ ((a = sz j ∧ b = sz d ∧ MB G ad f' 2 K V sz th pl dn) ∨ (a < sz j ∧ b < sz d ∧ r = (if of K j a < of K d b then of K j a else of K d b) ∧ MB G ad f' 0 K V sz th pl dn) ∨ (a < sz j ∧ b = sz d ∧ r = of K j a ∧ MB G ad f' 0 K V sz th pl dn) ∨ (a = sz j ∧ b < sz d ∧ r = of K d b ∧ MB G ad f' 0 K V sz th pl dn))) ∨ ((isv th v = false ∨ isv th o = false) ∧ MB G ad f' 1 K V sz th pl dn))) := by
  refine ov_mI (cc := cX3_firstDifference) (maxL := 9) (ty := .int) (by decide) rfl (Nat.le_of_ble_eq_true rfl) ?_
  intro p e s m below meth c av Q S ret hG ls hl
  have S : CallFix p m c cX3_firstDifference 9 s av wsX3_firstDifference RX3 := S
  have hl : lv_has ls 9 [(0, .ref (ad 76)), (1, .int v), (2, .int o)] := hl
  have i_X3 : ∀ w ∈ u_ws RX3 TX3 7, w ∈ wsX3_firstDifference := by decide +kernel
  have kf_7 := S.2.2.2.2 (.fieldLink RX3 7 "OrderedVersionsModel" "keys" "[I") (by decide +kernel)
  have kf_16 := S.2.2.2.2 (.fieldLink RX3 16 "OrderedVersionsModel" "sizes" "[I") (by decide +kernel)
  have kf_29 := S.2.2.2.2 (.fieldLink RX3 29 "OrderedVersionsModel" "code" "I") (by decide +kernel)
  have hO : OnM f f := OnM.rf
  refine lv_aload_n S.1 S.2.1 dX3_firstDifference_0 rfl (lv_at hl 0 rfl) ?_
  refine lv_aload_n S.1 S.2.1 dX3_firstDifference_1 rfl (lv_at hl 0 rfl) ?_
  refine lv_iload_n S.1 S.2.1 dX3_firstDifference_2 rfl (lv_at hl 1 rfl) ?_
  refine o_cVi S (rest := [.ref (ad 76)]) (c_X3_isVersion l G ad s0 f cd K V sz th pl dn v hM ) (cwV 1 S.2.2.2.2 gX3_firstDifference_X3_isVersion rfl rfl rfl (by decide +kernel) ⟨(Nat.le_of_ble_eq_true rfl), (Nat.le_of_ble_eq_true rfl)⟩) hG (by decide) hM.1 rfl rfl hl.1 rfl (Nat.le_of_ble_eq_true rfl) dX3_firstDifference_3 ⟨(Nat.le_of_ble_eq_true rfl), (Nat.le_of_ble_eq_true rfl)⟩ (fun r9 f9 H locs hp hG => ?_)
  obtain ⟨rfl, rfl⟩ := hp
  refine b_if_eq S (b := (isv th v)) (tgt := 21) dX3_firstDifference_6 (by decide) (fun c_6 => ?_) (fun c_6 => ?_)
  · skip
    refine lv_iconst (v := (nI 1)) S.1 S.2.1 dX3_firstDifference_21 (by decide) ?_
    refine o_put S hG i_X3 tyX3_ok nmX3 (by decide) hM.1 rfl 0 (by decide) kf_29 rfl rfl rfl (Nat.le_of_ble_eq_true rfl) dX3_firstDifference_22 (fun H locs hG => ?_)
    obtain ⟨f_1, ef_1, hG⟩ := ov_name hG
    have hM := hM.u0 (cd2 := 1) ef_1
    have hO := hO.up ef_1 (by decide)
    refine lv_aload_n S.1 S.2.1 dX3_firstDifference_25 rfl (lv_at hl 0 rfl) ?_
    refine o_get S hG i_X3 (by decide) hM.1 rfl 0 (by decide) kf_29 rfl dX3_firstDifference_26 ?_
    refine lv_if_le (tgt := 34) S.1 S.2.1 dX3_firstDifference_29 (by decide) (fun c_29 => ?_) (fun c_29 => ?_)
    · skip
      exact absurd c_29 (by decide)
    · skip
      refine lv_iconst (v := (nI 0)) S.1 S.2.1 dX3_firstDifference_32 (by decide) ?_
      exact ret _ _ _ _ _ _ _ _ hG ⟨hO, Or.inr ⟨Or.inl c_6, hM⟩⟩ rfl (Nat.le_of_ble_eq_true rfl) (Nat.le_of_ble_eq_true rfl) dX3_firstDifference_33
  · skip
    obtain ⟨j, hj2, rfl, hj3⟩ := isv_ex c_6
    have hnj := hW j (by omega) hj3
    refine lv_aload_n S.1 S.2.1 dX3_firstDifference_9 rfl (lv_at hl 0 rfl) ?_
    refine lv_iload_n S.1 S.2.1 dX3_firstDifference_10 rfl (lv_at hl 2 rfl) ?_
    refine o_cVi S (rest := [.ref (ad 76)]) (c_X3_isVersion l G ad s0 f cd K V sz th pl dn o hM ) (cwV 1 S.2.2.2.2 gX3_firstDifference_X3_isVersion rfl rfl rfl (by decide +kernel) ⟨(Nat.le_of_ble_eq_true rfl), (Nat.le_of_ble_eq_true rfl)⟩) hG (by decide) hM.1 rfl rfl hl.1 rfl (Nat.le_of_ble_eq_true rfl) dX3_firstDifference_11 ⟨(Nat.le_of_ble_eq_true rfl), (Nat.le_of_ble_eq_true rfl)⟩ (fun r9 f9 H locs hp hG => ?_)
    obtain ⟨rfl, rfl⟩ := hp
    refine b_if_eq S (b := (isv th o)) (tgt := 21) dX3_firstDifference_14 (by decide) (fun c_14 => ?_) (fun c_14 => ?_)
    · skip
      refine lv_iconst (v := (nI 1)) S.1 S.2.1 dX3_firstDifference_21 (by decide) ?_
      refine o_put S hG i_X3 tyX3_ok nmX3 (by decide) hM.1 rfl 0 (by decide) kf_29 rfl rfl rfl (Nat.le_of_ble_eq_true rfl) dX3_firstDifference_22 (fun H locs hG => ?_)
      obtain ⟨f_2, ef_2, hG⟩ := ov_name hG
      have hM := hM.u0 (cd2 := 1) ef_2
      have hO := hO.up ef_2 (by decide)
      refine lv_aload_n S.1 S.2.1 dX3_firstDifference_25 rfl (lv_at hl 0 rfl) ?_
      refine o_get S hG i_X3 (by decide) hM.1 rfl 0 (by decide) kf_29 rfl dX3_firstDifference_26 ?_
      refine lv_if_le (tgt := 34) S.1 S.2.1 dX3_firstDifference_29 (by decide) (fun c_29 => ?_) (fun c_29 => ?_)
      · skip
        exact absurd c_29 (by decide)
      · skip
        refine lv_iconst (v := (nI 0)) S.1 S.2.1 dX3_firstDifference_32 (by decide) ?_
        exact ret _ _ _ _ _ _ _ _ hG ⟨hO, Or.inr ⟨Or.inr c_14, hM⟩⟩ rfl (Nat.le_of_ble_eq_true rfl) (Nat.le_of_ble_eq_true rfl) dX3_firstDifference_33
    · skip
      obtain ⟨d, hd2, rfl, hd3⟩ := isv_ex c_14
      have hnd := hW d (by omega) hd3
      refine lv_iconst (v := (nI 0)) S.1 S.2.1 dX3_firstDifference_17 (by decide) ?_
      refine lv_goto (tgt := 22) S.1 S.2.1 dX3_firstDifference_18 (by decide) ?_
      refine o_put S hG i_X3 tyX3_ok nmX3 (by decide) hM.1 rfl 0 (by decide) kf_29 rfl rfl rfl (Nat.le_of_ble_eq_true rfl) dX3_firstDifference_22 (fun H locs hG => ?_)
      obtain ⟨f_3, ef_3, hG⟩ := ov_name hG
      have hM := hM.u0 (cd2 := 0) ef_3
      have hO := hO.up ef_3 (by decide)
      refine lv_aload_n S.1 S.2.1 dX3_firstDifference_25 rfl (lv_at hl 0 rfl) ?_
      refine o_get S hG i_X3 (by decide) hM.1 rfl 0 (by decide) kf_29 rfl dX3_firstDifference_26 ?_
      refine lv_if_le (tgt := 34) S.1 S.2.1 dX3_firstDifference_29 (by decide) (fun c_29 => ?_) (fun c_29 => ?_)
      · skip
        refine lv_aload_n S.1 S.2.1 dX3_firstDifference_34 rfl (lv_at hl 0 rfl) ?_
        refine lv_iload_n S.1 S.2.1 dX3_firstDifference_35 rfl (lv_at hl 1 rfl) ?_
        refine lv_iload_n S.1 S.2.1 dX3_firstDifference_36 rfl (lv_at hl 2 rfl) ?_
        refine o_cVi S (rest := []) (c_X3_firstOther l G ad s0 f_3 0 K V sz th pl dn j d hM (by omega) (by omega) (by omega) (by omega)) (cwV 2 S.2.2.2.2 gX3_firstDifference_X3_firstOther rfl rfl rfl (by decide +kernel) ⟨(Nat.le_of_ble_eq_true rfl), (Nat.le_of_ble_eq_true rfl)⟩) hG (by decide) hM.1 rfl rfl hl.1 rfl (Nat.le_of_ble_eq_true rfl) dX3_firstDifference_37 ⟨(Nat.le_of_ble_eq_true rfl), (Nat.le_of_ble_eq_true rfl)⟩ (fun r9 f9 H locs hp hG => ?_)
        obtain ⟨rfl, a, rfl, ha1, ha2, ha3⟩ := hp
        refine lv_istore_n (lv' := [(3, .int (nI a)), (0, .ref (ad 76)), (1, .int (nI j)), (2, .int (nI d))]) S.1 S.2.1 dX3_firstDifference_40 rfl hl (by decide) rfl (fun ls hl => ?_)
        refine lv_aload_n S.1 S.2.1 dX3_firstDifference_41 rfl (lv_at hl 1 rfl) ?_
        refine lv_iload_n S.1 S.2.1 dX3_firstDifference_42 rfl (lv_at hl 3 rfl) ?_
        refine lv_iload_n S.1 S.2.1 dX3_firstDifference_43 rfl (lv_at hl 2 rfl) ?_
        refine o_cVi S (rest := []) (c_X3_firstOther l G ad s0 f_3 0 K V sz th pl dn d j hM (by omega) (by omega) (by omega) (by omega)) (cwV 2 S.2.2.2.2 gX3_firstDifference_X3_firstOther rfl rfl rfl (by decide +kernel) ⟨(Nat.le_of_ble_eq_true rfl), (Nat.le_of_ble_eq_true rfl)⟩) hG (by decide) hM.1 rfl rfl hl.1 rfl (Nat.le_of_ble_eq_true rfl) dX3_firstDifference_44 ⟨(Nat.le_of_ble_eq_true rfl), (Nat.le_of_ble_eq_true rfl)⟩ (fun r9 f9 H locs hp hG => ?_)
        obtain ⟨rfl, b, rfl, hb1, hb2, hb3⟩ := hp
        refine lv_istore (lv' := [(4, .int (nI b)), (3, .int (nI a)), (0, .ref (ad 76)), (1, .int (nI j)), (2, .int (nI d))]) S.1 S.2.1 dX3_firstDifference_47 hl (by decide) rfl (fun ls hl => ?_)
        refine lv_iload_n S.1 S.2.1 dX3_firstDifference_49 rfl (lv_at hl 1 rfl) ?_
        refine lv_aload_n S.1 S.2.1 dX3_firstDifference_50 rfl (lv_at hl 2 rfl) ?_
        refine o_get S hG i_X3 (by decide) hM.1 rfl 3 (by decide) kf_16 rfl dX3_firstDifference_51 ?_
        refine lv_iload_n S.1 S.2.1 dX3_firstDifference_54 rfl (lv_at hl 3 rfl) ?_
        refine o_iald S hG (j := j) (by decide) hM.2.2.2.1 (by omega) dX3_firstDifference_55 (kk := ?_)
        refine n_ge S (a := a) (b := sz j) (tgt := 63) dX3_firstDifference_56 (by decide) (by omega) (by omega) (fun c_56 => ?_) (fun c_56 => ?_)
        · skip
          refine lv_iconst (v := (nI 0)) S.1 S.2.1 dX3_firstDifference_63 (by decide) ?_
          refine lv_istore (lv' := [(5, .int (nI 0)), (4, .int (nI b)), (3, .int (nI a)), (0, .ref (ad 76)), (1, .int (nI j)), (2, .int (nI d))]) S.1 S.2.1 dX3_firstDifference_64 hl (by decide) rfl (fun ls hl => ?_)
          refine lv_iload S.1 S.2.1 dX3_firstDifference_66 (lv_at hl 1 rfl) ?_
          refine lv_aload_n S.1 S.2.1 dX3_firstDifference_68 rfl (lv_at hl 3 rfl) ?_
          refine o_get S hG i_X3 (by decide) hM.1 rfl 3 (by decide) kf_16 rfl dX3_firstDifference_69 ?_
          refine lv_iload_n S.1 S.2.1 dX3_firstDifference_72 rfl (lv_at hl 5 rfl) ?_
          refine o_iald S hG (j := d) (by decide) hM.2.2.2.1 (by omega) dX3_firstDifference_73 (kk := ?_)
          refine n_ge S (a := b) (b := sz d) (tgt := 81) dX3_firstDifference_74 (by decide) (by omega) (by omega) (fun c_74 => ?_) (fun c_74 => ?_)
          · skip
            refine lv_iconst (v := (nI 0)) S.1 S.2.1 dX3_firstDifference_81 (by decide) ?_
            refine lv_istore (lv' := [(6, .int (nI 0)), (5, .int (nI 0)), (4, .int (nI b)), (3, .int (nI a)), (0, .ref (ad 76)), (1, .int (nI j)), (2, .int (nI d))]) S.1 S.2.1 dX3_firstDifference_82 hl (by decide) rfl (fun ls hl => ?_)
            refine lv_aload_n S.1 S.2.1 dX3_firstDifference_84 rfl (lv_at hl 4 rfl) ?_
            refine lv_iload S.1 S.2.1 dX3_firstDifference_85 (lv_at hl 1 rfl) ?_
            refine n_if_ne S (a := 0) (tgt := 95) dX3_firstDifference_87 (by decide) (by omega) (fun c_87 => ?_) (fun c_87 => ?_)
            · skip
              exact absurd c_87 (by decide)
            · skip
              refine lv_iload S.1 S.2.1 dX3_firstDifference_90 (lv_at hl 0 rfl) ?_
              refine n_if_eq S (a := 0) (tgt := 99) dX3_firstDifference_92 (by decide) (by omega) (fun c_92 => ?_) (fun c_92 => ?_)
              · skip
                refine lv_iconst (v := (nI 2)) S.1 S.2.1 dX3_firstDifference_99 (by decide) ?_
                refine o_put S hG i_X3 tyX3_ok nmX3 (by decide) hM.1 rfl 0 (by decide) kf_29 rfl rfl rfl (Nat.le_of_ble_eq_true rfl) dX3_firstDifference_100 (fun H locs hG => ?_)
                obtain ⟨f_4, ef_4, hG⟩ := ov_name hG
                have hM := hM.u0 (cd2 := 2) ef_4
                have hO := hO.up ef_4 (by decide)
                refine lv_aload_n S.1 S.2.1 dX3_firstDifference_103 rfl (lv_at hl 4 rfl) ?_
                refine o_get S hG i_X3 (by decide) hM.1 rfl 0 (by decide) kf_29 rfl dX3_firstDifference_104 ?_
                refine lv_if_le (tgt := 112) S.1 S.2.1 dX3_firstDifference_107 (by decide) (fun c_107 => ?_) (fun c_107 => ?_)
                · skip
                  exact absurd c_107 (by decide)
                · skip
                  refine lv_iconst (v := (nI 0)) S.1 S.2.1 dX3_firstDifference_110 (by decide) ?_
                  exact ret _ _ _ _ _ _ _ _ hG ⟨hO, Or.inl ⟨j, d, hj2, hd2, rfl, rfl, hj3, hd3, a, b, ha1, ha2, ha3, hb1, hb2, hb3, Or.inl ⟨by omega, by omega, hM⟩⟩⟩ rfl (Nat.le_of_ble_eq_true rfl) (Nat.le_of_ble_eq_true rfl) dX3_firstDifference_111
              · skip
                exact absurd c_92 (by decide)
          · skip
            refine lv_iconst (v := (nI 1)) S.1 S.2.1 dX3_firstDifference_77 (by decide) ?_
            refine lv_goto (tgt := 82) S.1 S.2.1 dX3_firstDifference_78 (by decide) ?_
            refine lv_istore (lv' := [(6, .int (nI 1)), (5, .int (nI 0)), (4, .int (nI b)), (3, .int (nI a)), (0, .ref (ad 76)), (1, .int (nI j)), (2, .int (nI d))]) S.1 S.2.1 dX3_firstDifference_82 hl (by decide) rfl (fun ls hl => ?_)
            refine lv_aload_n S.1 S.2.1 dX3_firstDifference_84 rfl (lv_at hl 4 rfl) ?_
            refine lv_iload S.1 S.2.1 dX3_firstDifference_85 (lv_at hl 1 rfl) ?_
            refine n_if_ne S (a := 0) (tgt := 95) dX3_firstDifference_87 (by decide) (by omega) (fun c_87 => ?_) (fun c_87 => ?_)
            · skip
              exact absurd c_87 (by decide)
            · skip
              refine lv_iload S.1 S.2.1 dX3_firstDifference_90 (lv_at hl 0 rfl) ?_
              refine n_if_eq S (a := 1) (tgt := 99) dX3_firstDifference_92 (by decide) (by omega) (fun c_92 => ?_) (fun c_92 => ?_)
              · skip
                exact absurd c_92 (by decide)
              · skip
                refine lv_iconst (v := (nI 0)) S.1 S.2.1 dX3_firstDifference_95 (by decide) ?_
                refine lv_goto (tgt := 100) S.1 S.2.1 dX3_firstDifference_96 (by decide) ?_
                refine o_put S hG i_X3 tyX3_ok nmX3 (by decide) hM.1 rfl 0 (by decide) kf_29 rfl rfl rfl (Nat.le_of_ble_eq_true rfl) dX3_firstDifference_100 (fun H locs hG => ?_)
                obtain ⟨f_5, ef_5, hG⟩ := ov_name hG
                have hM := hM.u0 (cd2 := 0) ef_5
                have hO := hO.up ef_5 (by decide)
                refine lv_aload_n S.1 S.2.1 dX3_firstDifference_103 rfl (lv_at hl 4 rfl) ?_
                refine o_get S hG i_X3 (by decide) hM.1 rfl 0 (by decide) kf_29 rfl dX3_firstDifference_104 ?_
                refine lv_if_le (tgt := 112) S.1 S.2.1 dX3_firstDifference_107 (by decide) (fun c_107 => ?_) (fun c_107 => ?_)
                · skip
                  refine lv_iload S.1 S.2.1 dX3_firstDifference_112 (lv_at hl 1 rfl) ?_
                  refine n_if_eq S (a := 0) (tgt := 132) dX3_firstDifference_114 (by decide) (by omega) (fun c_114 => ?_) (fun c_114 => ?_)
                  · skip
                    refine lv_aload_n S.1 S.2.1 dX3_firstDifference_132 rfl (lv_at hl 4 rfl) ?_
                    refine o_get S hG i_X3 (by decide) hM.1 rfl 1 (by decide) kf_7 rfl dX3_firstDifference_133 ?_
                    refine lv_sipush (v := (nI 600)) S.1 S.2.1 dX3_firstDifference_136 (by decide) ?_
                    refine lv_iload_n S.1 S.2.1 dX3_firstDifference_139 rfl (lv_at hl 6 rfl) ?_
                    refine o_mul S (a := 600) (b := d) dX3_firstDifference_140 ?_
                    refine lv_iload S.1 S.2.1 dX3_firstDifference_141 (lv_at hl 2 rfl) ?_
                    refine o_add S (a := 600 * d) (b := b) dX3_firstDifference_143 ?_
                    refine o_iald S hG (j := (600 * d) + b) (by decide) hM.2.1 (by omega) dX3_firstDifference_144 (kk := ?_)
                    refine lv_istore (lv' := [(7, .int (K ((600 * d) + b))), (6, .int (nI 1)), (5, .int (nI 0)), (4, .int (nI b)), (3, .int (nI a)), (0, .ref (ad 76)), (1, .int (nI j)), (2, .int (nI d))]) S.1 S.2.1 dX3_firstDifference_145 hl (by decide) rfl (fun ls hl => ?_)
                    refine lv_iload S.1 S.2.1 dX3_firstDifference_147 (lv_at hl 1 rfl) ?_
                    refine n_if_eq S (a := 1) (tgt := 168) dX3_firstDifference_149 (by decide) (by omega) (fun c_149 => ?_) (fun c_149 => ?_)
                    · skip
                      exact absurd c_149 (by decide)
                    · skip
                      refine lv_aload_n S.1 S.2.1 dX3_firstDifference_152 rfl (lv_at hl 5 rfl) ?_
                      refine o_get S hG i_X3 (by decide) hM.1 rfl 1 (by decide) kf_7 rfl dX3_firstDifference_153 ?_
                      refine lv_sipush (v := (nI 600)) S.1 S.2.1 dX3_firstDifference_156 (by decide) ?_
                      refine lv_iload_n S.1 S.2.1 dX3_firstDifference_159 rfl (lv_at hl 7 rfl) ?_
                      refine o_mul S (a := 600) (b := d) dX3_firstDifference_160 ?_
                      refine lv_iload S.1 S.2.1 dX3_firstDifference_161 (lv_at hl 3 rfl) ?_
                      refine o_add S (a := 600 * d) (b := b) dX3_firstDifference_163 ?_
                      refine o_iald S hG (j := (600 * d) + b) (by decide) hM.2.1 (by omega) dX3_firstDifference_164 (kk := ?_)
                      refine lv_goto (tgt := 170) S.1 S.2.1 dX3_firstDifference_165 (by decide) ?_
                      refine lv_istore (lv' := [(8, .int (K ((600 * d) + b))), (7, .int (K ((600 * d) + b))), (6, .int (nI 1)), (5, .int (nI 0)), (4, .int (nI b)), (3, .int (nI a)), (0, .ref (ad 76)), (1, .int (nI j)), (2, .int (nI d))]) S.1 S.2.1 dX3_firstDifference_170 hl (by decide) rfl (fun ls hl => ?_)
                      refine lv_iload S.1 S.2.1 dX3_firstDifference_172 (lv_at hl 1 rfl) ?_
                      refine lv_iload S.1 S.2.1 dX3_firstDifference_174 (lv_at hl 0 rfl) ?_
                      refine lv_icmp_ge (tgt := 184) S.1 S.2.1 dX3_firstDifference_176 (by decide) (fun c_176 => ?_) (fun c_176 => ?_)
                      · skip
                        refine lv_iload S.1 S.2.1 dX3_firstDifference_184 (lv_at hl 0 rfl) ?_
                        exact ret _ _ _ _ _ _ _ _ hG ⟨hO, Or.inl ⟨j, d, hj2, hd2, rfl, rfl, hj3, hd3, a, b, ha1, ha2, ha3, hb1, hb2, hb3, Or.inr (Or.inr (Or.inr ⟨by omega, by omega, rfl, hM⟩))⟩⟩ rfl (Nat.le_of_ble_eq_true rfl) (Nat.le_of_ble_eq_true rfl) dX3_firstDifference_186
                      · skip
                        refine lv_iload S.1 S.2.1 dX3_firstDifference_179 (lv_at hl 1 rfl) ?_
                        refine lv_goto (tgt := 186) S.1 S.2.1 dX3_firstDifference_181 (by decide) ?_
                        exact ret _ _ _ _ _ _ _ _ hG ⟨hO, Or.inl ⟨j, d, hj2, hd2, rfl, rfl, hj3, hd3, a, b, ha1, ha2, ha3, hb1, hb2, hb3, Or.inr (Or.inr (Or.inr ⟨by omega, by omega, rfl, hM⟩))⟩⟩ rfl (Nat.le_of_ble_eq_true rfl) (Nat.le_of_ble_eq_true rfl) dX3_firstDifference_186
                  · skip
                    exact absurd c_114 (by decide)
                · skip
                  exact absurd c_107 (by decide)
        · skip
          refine lv_iconst (v := (nI 1)) S.1 S.2.1 dX3_firstDifference_59 (by decide) ?_
          refine lv_goto (tgt := 64) S.1 S.2.1 dX3_firstDifference_60 (by decide) ?_
          refine lv_istore (lv' := [(5, .int (nI 1)), (4, .int (nI b)), (3, .int (nI a)), (0, .ref (ad 76)), (1, .int (nI j)), (2, .int (nI d))]) S.1 S.2.1 dX3_firstDifference_64 hl (by decide) rfl (fun ls hl => ?_)
          refine lv_iload S.1 S.2.1 dX3_firstDifference_66 (lv_at hl 1 rfl) ?_
          refine lv_aload_n S.1 S.2.1 dX3_firstDifference_68 rfl (lv_at hl 3 rfl) ?_
          refine o_get S hG i_X3 (by decide) hM.1 rfl 3 (by decide) kf_16 rfl dX3_firstDifference_69 ?_
          refine lv_iload_n S.1 S.2.1 dX3_firstDifference_72 rfl (lv_at hl 5 rfl) ?_
          refine o_iald S hG (j := d) (by decide) hM.2.2.2.1 (by omega) dX3_firstDifference_73 (kk := ?_)
          refine n_ge S (a := b) (b := sz d) (tgt := 81) dX3_firstDifference_74 (by decide) (by omega) (by omega) (fun c_74 => ?_) (fun c_74 => ?_)
          · skip
            refine lv_iconst (v := (nI 0)) S.1 S.2.1 dX3_firstDifference_81 (by decide) ?_
            refine lv_istore (lv' := [(6, .int (nI 0)), (5, .int (nI 1)), (4, .int (nI b)), (3, .int (nI a)), (0, .ref (ad 76)), (1, .int (nI j)), (2, .int (nI d))]) S.1 S.2.1 dX3_firstDifference_82 hl (by decide) rfl (fun ls hl => ?_)
            refine lv_aload_n S.1 S.2.1 dX3_firstDifference_84 rfl (lv_at hl 4 rfl) ?_
            refine lv_iload S.1 S.2.1 dX3_firstDifference_85 (lv_at hl 1 rfl) ?_
            refine n_if_ne S (a := 1) (tgt := 95) dX3_firstDifference_87 (by decide) (by omega) (fun c_87 => ?_) (fun c_87 => ?_)
            · skip
              refine lv_iconst (v := (nI 0)) S.1 S.2.1 dX3_firstDifference_95 (by decide) ?_
              refine lv_goto (tgt := 100) S.1 S.2.1 dX3_firstDifference_96 (by decide) ?_
              refine o_put S hG i_X3 tyX3_ok nmX3 (by decide) hM.1 rfl 0 (by decide) kf_29 rfl rfl rfl (Nat.le_of_ble_eq_true rfl) dX3_firstDifference_100 (fun H locs hG => ?_)
              obtain ⟨f_6, ef_6, hG⟩ := ov_name hG
              have hM := hM.u0 (cd2 := 0) ef_6
              have hO := hO.up ef_6 (by decide)
              refine lv_aload_n S.1 S.2.1 dX3_firstDifference_103 rfl (lv_at hl 4 rfl) ?_
              refine o_get S hG i_X3 (by decide) hM.1 rfl 0 (by decide) kf_29 rfl dX3_firstDifference_104 ?_
              refine lv_if_le (tgt := 112) S.1 S.2.1 dX3_firstDifference_107 (by decide) (fun c_107 => ?_) (fun c_107 => ?_)
              · skip
                refine lv_iload S.1 S.2.1 dX3_firstDifference_112 (lv_at hl 1 rfl) ?_
                refine n_if_eq S (a := 1) (tgt := 132) dX3_firstDifference_114 (by decide) (by omega) (fun c_114 => ?_) (fun c_114 => ?_)
                · skip
                  exact absurd c_114 (by decide)
                · skip
                  refine lv_aload_n S.1 S.2.1 dX3_firstDifference_117 rfl (lv_at hl 4 rfl) ?_
                  refine o_get S hG i_X3 (by decide) hM.1 rfl 1 (by decide) kf_7 rfl dX3_firstDifference_118 ?_
                  refine lv_sipush (v := (nI 600)) S.1 S.2.1 dX3_firstDifference_121 (by decide) ?_
                  refine lv_iload_n S.1 S.2.1 dX3_firstDifference_124 rfl (lv_at hl 5 rfl) ?_
                  refine o_mul S (a := 600) (b := j) dX3_firstDifference_125 ?_
                  refine lv_iload_n S.1 S.2.1 dX3_firstDifference_126 rfl (lv_at hl 3 rfl) ?_
                  refine o_add S (a := 600 * j) (b := a) dX3_firstDifference_127 ?_
                  refine o_iald S hG (j := (600 * j) + a) (by decide) hM.2.1 (by omega) dX3_firstDifference_128 (kk := ?_)
                  refine lv_goto (tgt := 145) S.1 S.2.1 dX3_firstDifference_129 (by decide) ?_
                  refine lv_istore (lv' := [(7, .int (K ((600 * j) + a))), (6, .int (nI 0)), (5, .int (nI 1)), (4, .int (nI b)), (3, .int (nI a)), (0, .ref (ad 76)), (1, .int (nI j)), (2, .int (nI d))]) S.1 S.2.1 dX3_firstDifference_145 hl (by decide) rfl (fun ls hl => ?_)
                  refine lv_iload S.1 S.2.1 dX3_firstDifference_147 (lv_at hl 1 rfl) ?_
                  refine n_if_eq S (a := 0) (tgt := 168) dX3_firstDifference_149 (by decide) (by omega) (fun c_149 => ?_) (fun c_149 => ?_)
                  · skip
                    refine lv_iload S.1 S.2.1 dX3_firstDifference_168 (lv_at hl 0 rfl) ?_
                    refine lv_istore (lv' := [(8, .int (K ((600 * j) + a))), (7, .int (K ((600 * j) + a))), (6, .int (nI 0)), (5, .int (nI 1)), (4, .int (nI b)), (3, .int (nI a)), (0, .ref (ad 76)), (1, .int (nI j)), (2, .int (nI d))]) S.1 S.2.1 dX3_firstDifference_170 hl (by decide) rfl (fun ls hl => ?_)
                    refine lv_iload S.1 S.2.1 dX3_firstDifference_172 (lv_at hl 1 rfl) ?_
                    refine lv_iload S.1 S.2.1 dX3_firstDifference_174 (lv_at hl 0 rfl) ?_
                    refine lv_icmp_ge (tgt := 184) S.1 S.2.1 dX3_firstDifference_176 (by decide) (fun c_176 => ?_) (fun c_176 => ?_)
                    · skip
                      refine lv_iload S.1 S.2.1 dX3_firstDifference_184 (lv_at hl 0 rfl) ?_
                      exact ret _ _ _ _ _ _ _ _ hG ⟨hO, Or.inl ⟨j, d, hj2, hd2, rfl, rfl, hj3, hd3, a, b, ha1, ha2, ha3, hb1, hb2, hb3, Or.inr (Or.inr (Or.inl ⟨by omega, by omega, rfl, hM⟩))⟩⟩ rfl (Nat.le_of_ble_eq_true rfl) (Nat.le_of_ble_eq_true rfl) dX3_firstDifference_186
                    · skip
                      refine lv_iload S.1 S.2.1 dX3_firstDifference_179 (lv_at hl 1 rfl) ?_
                      refine lv_goto (tgt := 186) S.1 S.2.1 dX3_firstDifference_181 (by decide) ?_
                      exact ret _ _ _ _ _ _ _ _ hG ⟨hO, Or.inl ⟨j, d, hj2, hd2, rfl, rfl, hj3, hd3, a, b, ha1, ha2, ha3, hb1, hb2, hb3, Or.inr (Or.inr (Or.inl ⟨by omega, by omega, rfl, hM⟩))⟩⟩ rfl (Nat.le_of_ble_eq_true rfl) (Nat.le_of_ble_eq_true rfl) dX3_firstDifference_186
                  · skip
                    exact absurd c_149 (by decide)
              · skip
                exact absurd c_107 (by decide)
            · skip
              exact absurd c_87 (by decide)
          · skip
            refine lv_iconst (v := (nI 1)) S.1 S.2.1 dX3_firstDifference_77 (by decide) ?_
            refine lv_goto (tgt := 82) S.1 S.2.1 dX3_firstDifference_78 (by decide) ?_
            refine lv_istore (lv' := [(6, .int (nI 1)), (5, .int (nI 1)), (4, .int (nI b)), (3, .int (nI a)), (0, .ref (ad 76)), (1, .int (nI j)), (2, .int (nI d))]) S.1 S.2.1 dX3_firstDifference_82 hl (by decide) rfl (fun ls hl => ?_)
            refine lv_aload_n S.1 S.2.1 dX3_firstDifference_84 rfl (lv_at hl 4 rfl) ?_
            refine lv_iload S.1 S.2.1 dX3_firstDifference_85 (lv_at hl 1 rfl) ?_
            refine n_if_ne S (a := 1) (tgt := 95) dX3_firstDifference_87 (by decide) (by omega) (fun c_87 => ?_) (fun c_87 => ?_)
            · skip
              refine lv_iconst (v := (nI 0)) S.1 S.2.1 dX3_firstDifference_95 (by decide) ?_
              refine lv_goto (tgt := 100) S.1 S.2.1 dX3_firstDifference_96 (by decide) ?_
              refine o_put S hG i_X3 tyX3_ok nmX3 (by decide) hM.1 rfl 0 (by decide) kf_29 rfl rfl rfl (Nat.le_of_ble_eq_true rfl) dX3_firstDifference_100 (fun H locs hG => ?_)
              obtain ⟨f_7, ef_7, hG⟩ := ov_name hG
              have hM := hM.u0 (cd2 := 0) ef_7
              have hO := hO.up ef_7 (by decide)
              refine lv_aload_n S.1 S.2.1 dX3_firstDifference_103 rfl (lv_at hl 4 rfl) ?_
              refine o_get S hG i_X3 (by decide) hM.1 rfl 0 (by decide) kf_29 rfl dX3_firstDifference_104 ?_
              refine lv_if_le (tgt := 112) S.1 S.2.1 dX3_firstDifference_107 (by decide) (fun c_107 => ?_) (fun c_107 => ?_)
              · skip
                refine lv_iload S.1 S.2.1 dX3_firstDifference_112 (lv_at hl 1 rfl) ?_
                refine n_if_eq S (a := 1) (tgt := 132) dX3_firstDifference_114 (by decide) (by omega) (fun c_114 => ?_) (fun c_114 => ?_)
                · skip
                  exact absurd c_114 (by decide)
                · skip
                  refine lv_aload_n S.1 S.2.1 dX3_firstDifference_117 rfl (lv_at hl 4 rfl) ?_
                  refine o_get S hG i_X3 (by decide) hM.1 rfl 1 (by decide) kf_7 rfl dX3_firstDifference_118 ?_
                  refine lv_sipush (v := (nI 600)) S.1 S.2.1 dX3_firstDifference_121 (by decide) ?_
                  refine lv_iload_n S.1 S.2.1 dX3_firstDifference_124 rfl (lv_at hl 5 rfl) ?_
                  refine o_mul S (a := 600) (b := j) dX3_firstDifference_125 ?_
                  refine lv_iload_n S.1 S.2.1 dX3_firstDifference_126 rfl (lv_at hl 3 rfl) ?_
                  refine o_add S (a := 600 * j) (b := a) dX3_firstDifference_127 ?_
                  refine o_iald S hG (j := (600 * j) + a) (by decide) hM.2.1 (by omega) dX3_firstDifference_128 (kk := ?_)
                  refine lv_goto (tgt := 145) S.1 S.2.1 dX3_firstDifference_129 (by decide) ?_
                  refine lv_istore (lv' := [(7, .int (K ((600 * j) + a))), (6, .int (nI 1)), (5, .int (nI 1)), (4, .int (nI b)), (3, .int (nI a)), (0, .ref (ad 76)), (1, .int (nI j)), (2, .int (nI d))]) S.1 S.2.1 dX3_firstDifference_145 hl (by decide) rfl (fun ls hl => ?_)
                  refine lv_iload S.1 S.2.1 dX3_firstDifference_147 (lv_at hl 1 rfl) ?_
                  refine n_if_eq S (a := 1) (tgt := 168) dX3_firstDifference_149 (by decide) (by omega) (fun c_149 => ?_) (fun c_149 => ?_)
                  · skip
                    exact absurd c_149 (by decide)
                  · skip
                    refine lv_aload_n S.1 S.2.1 dX3_firstDifference_152 rfl (lv_at hl 5 rfl) ?_
                    refine o_get S hG i_X3 (by decide) hM.1 rfl 1 (by decide) kf_7 rfl dX3_firstDifference_153 ?_
                    refine lv_sipush (v := (nI 600)) S.1 S.2.1 dX3_firstDifference_156 (by decide) ?_
                    refine lv_iload_n S.1 S.2.1 dX3_firstDifference_159 rfl (lv_at hl 7 rfl) ?_
                    refine o_mul S (a := 600) (b := d) dX3_firstDifference_160 ?_
                    refine lv_iload S.1 S.2.1 dX3_firstDifference_161 (lv_at hl 3 rfl) ?_
                    refine o_add S (a := 600 * d) (b := b) dX3_firstDifference_163 ?_
                    refine o_iald S hG (j := (600 * d) + b) (by decide) hM.2.1 (by omega) dX3_firstDifference_164 (kk := ?_)
                    refine lv_goto (tgt := 170) S.1 S.2.1 dX3_firstDifference_165 (by decide) ?_
                    refine lv_istore (lv' := [(8, .int (K ((600 * d) + b))), (7, .int (K ((600 * j) + a))), (6, .int (nI 1)), (5, .int (nI 1)), (4, .int (nI b)), (3, .int (nI a)), (0, .ref (ad 76)), (1, .int (nI j)), (2, .int (nI d))]) S.1 S.2.1 dX3_firstDifference_170 hl (by decide) rfl (fun ls hl => ?_)
                    refine lv_iload S.1 S.2.1 dX3_firstDifference_172 (lv_at hl 1 rfl) ?_
                    refine lv_iload S.1 S.2.1 dX3_firstDifference_174 (lv_at hl 0 rfl) ?_
                    refine lv_icmp_ge (tgt := 184) S.1 S.2.1 dX3_firstDifference_176 (by decide) (fun c_176 => ?_) (fun c_176 => ?_)
                    · skip
                      refine lv_iload S.1 S.2.1 dX3_firstDifference_184 (lv_at hl 0 rfl) ?_
                      exact ret _ _ _ _ _ _ _ _ hG ⟨hO, Or.inl ⟨j, d, hj2, hd2, rfl, rfl, hj3, hd3, a, b, ha1, ha2, ha3, hb1, hb2, hb3, Or.inr (Or.inl ⟨by omega, by omega, (if_neg (show ¬ of K j a < of K d b from i32_nlt c_176)).symm, hM⟩)⟩⟩ rfl (Nat.le_of_ble_eq_true rfl) (Nat.le_of_ble_eq_true rfl) dX3_firstDifference_186
                    · skip
                      refine lv_iload S.1 S.2.1 dX3_firstDifference_179 (lv_at hl 1 rfl) ?_
                      refine lv_goto (tgt := 186) S.1 S.2.1 dX3_firstDifference_181 (by decide) ?_
                      exact ret _ _ _ _ _ _ _ _ hG ⟨hO, Or.inl ⟨j, d, hj2, hd2, rfl, rfl, hj3, hd3, a, b, ha1, ha2, ha3, hb1, hb2, hb3, Or.inr (Or.inl ⟨by omega, by omega, (if_pos (show of K j a < of K d b from i32_of_nle c_176)).symm, hM⟩)⟩⟩ rfl (Nat.le_of_ble_eq_true rfl) (Nat.le_of_ble_eq_true rfl) dX3_firstDifference_186
              · skip
                exact absurd c_107 (by decide)
            · skip
              exact absurd c_87 (by decide)
      · skip
        exact absurd c_29 (by decide)

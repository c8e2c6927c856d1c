set_option maxHeartbeats 4000000 in
set_option maxRecDepth 100000 in
theorem c_X3_merge (l : Launch) (G : Gx) (ad : Nat → Nat) (s0 : Nat) (f : Nat → va_E) (cd : Nat) (K V : Nat → Int32) (sz : Nat → Nat) (th : Nat → Bool) (pl : Nat → Int) (dn : Nat → Bool) (v : Int32) (hM : MB G ad f cd K V sz th pl dn) (hW : ∀ j, j < 21 → th j = true → sz j ≤ 600) (h00 : th 0 = true) (hS : ∀ j, j < 21 → th j = true → Srt (sz j) (of K j)) : mI l yX3_merge wsX3_merge 2 47 0 0 [.ref (ad 76), .int v] G 84 ad s0 f (fun r f' => OnM f f' ∧ ((∃ j, j ≤ 12 ∧ v = nI j ∧ th j = true ∧ ((sz 0 + cnt (sz j) (fun z => !hs (sz 0) (of K 0) (of K j z)) ≤ 600 ∧ r = nI (cnt (sz j) (fun z => !hs (sz 0) (of K 0) (of K j z))) ∧ ∃ K2 V2, MB G ad f' 0 K2 V2 (va_up sz 0 (sz 0 + cnt (sz j) (fun z => !hs (sz 0) (of K 0) (of K j z)))) th pl dn ∧ Srt (sz 0 + cnt (sz j) (fun z => !hs (sz 0) (of K 0) (of K j z))) (of K2 0) ∧ (∀ x y, Has (sz 0 + cnt (sz j) (fun z => !hs (sz 0) (of K 0) (of K j z))) (of K2 0) (of V2 0) x y ↔ Has (sz 0) (of K 0) (of V 0) x y ∨ (hs (sz 0) (of K 0) x = false ∧ Has (sz j) (of K j) (of V j) x y)) ∧ ∀ i, 600 ≤ i → K2 i = K i ∧ V2 i = V i) ∨ (600 < sz 0 + cnt (sz j) (fun z => !hs (sz 0) (of K 0) (of K j z)) ∧ MB G ad f' 2 K V sz th pl dn))) ∨ (isv th v = false ∧ MB G ad f' 1 K V sz th pl dn))) := by
  refine ov_mI (cc := cX3_merge) (maxL := 5) (ty := .int) (by decide) rfl (Nat.le_of_ble_eq_true rfl) ?_
  intro p e s m below meth c av Q S ret hG ls hl
  have S : CallFix p m c cX3_merge 5 s av wsX3_merge RX3 := S
  have hl : lv_has ls 5 [(0, .ref (ad 76)), (1, .int v)] := hl
  have i_X3 : ∀ w ∈ u_ws RX3 TX3 7, w ∈ wsX3_merge := by decide +kernel
  have kf_7 := S.2.2.2.2 (.fieldLink RX3 7 "OrderedVersionsModel" "keys" "[I") (by decide +kernel)
  have kf_13 := S.2.2.2.2 (.fieldLink RX3 13 "OrderedVersionsModel" "values" "[I") (by decide +kernel)
  have kf_16 := S.2.2.2.2 (.fieldLink RX3 16 "OrderedVersionsModel" "sizes" "[I") (by decide +kernel)
  have kf_29 := S.2.2.2.2 (.fieldLink RX3 29 "OrderedVersionsModel" "code" "I") (by decide +kernel)
  have hO : OnM f f := OnM.rf
  have hn0 := hW 0 (by decide) h00
  refine lv_aload_n S.1 S.2.1 dX3_merge_0 rfl (lv_at hl 0 rfl) ?_
  refine lv_aload_n S.1 S.2.1 dX3_merge_1 rfl (lv_at hl 0 rfl) ?_
  refine lv_iload_n S.1 S.2.1 dX3_merge_2 rfl (lv_at hl 1 rfl) ?_
  refine o_cVi S (rest := [.ref (ad 76)]) (c_X3_isVersion l G ad s0 f cd K V sz th pl dn v hM ) (cwV 1 S.2.2.2.2 gX3_merge_X3_isVersion rfl rfl rfl (by decide +kernel) ⟨(Nat.le_of_ble_eq_true rfl), (Nat.le_of_ble_eq_true rfl)⟩) hG (by decide) hM.1 rfl rfl hl.1 rfl (Nat.le_of_ble_eq_true rfl) dX3_merge_3 ⟨(Nat.le_of_ble_eq_true rfl), (Nat.le_of_ble_eq_true rfl)⟩ (fun r9 f9 H locs hp hG => ?_)
  obtain ⟨rfl, rfl⟩ := hp
  refine b_if_eq S (b := (isv th v)) (tgt := 13) dX3_merge_6 (by decide) (fun c_6 => ?_) (fun c_6 => ?_)
  · skip
    refine lv_iconst (v := (nI 1)) S.1 S.2.1 dX3_merge_13 (by decide) ?_
    refine o_put S hG i_X3 tyX3_ok nmX3 (by decide) hM.1 rfl 0 (by decide) kf_29 rfl rfl rfl (Nat.le_of_ble_eq_true rfl) dX3_merge_14 (fun H locs hG => ?_)
    obtain ⟨f_1, ef_1, hG⟩ := ov_name hG
    have hM := hM.u0 (cd2 := 1) ef_1
    have hO := hO.up ef_1 (by decide)
    refine lv_iconst (v := (nI 0)) S.1 S.2.1 dX3_merge_17 (by decide) ?_
    refine lv_istore_n (lv' := [(2, .int (nI 0)), (0, .ref (ad 76)), (1, .int v)]) S.1 S.2.1 dX3_merge_18 rfl hl (by decide) rfl (fun ls hl => ?_)
    refine lv_iconst (v := (nI 0)) S.1 S.2.1 dX3_merge_19 (by decide) ?_
    refine lv_istore_n (lv' := [(3, .int (nI 0)), (2, .int (nI 0)), (0, .ref (ad 76)), (1, .int v)]) S.1 S.2.1 dX3_merge_20 rfl hl (by decide) rfl (fun ls hl => ?_)
    refine lv_aload_n S.1 S.2.1 dX3_merge_21 rfl (lv_at hl 2 rfl) ?_
    refine o_get S hG i_X3 (by decide) hM.1 rfl 0 (by decide) kf_29 rfl dX3_merge_22 ?_
    refine n_if_ne S (a := 1) (tgt := 72) dX3_merge_25 (by decide) (by omega) (fun c_25 => ?_) (fun c_25 => ?_)
    · skip
      refine lv_aload_n S.1 S.2.1 dX3_merge_72 rfl (lv_at hl 2 rfl) ?_
      refine lv_aload_n S.1 S.2.1 dX3_merge_73 rfl (lv_at hl 2 rfl) ?_
      refine o_get S hG i_X3 (by decide) hM.1 rfl 0 (by decide) kf_29 rfl dX3_merge_74 ?_
      refine n_if_ne S (a := 1) (tgt := 98) dX3_merge_77 (by decide) (by omega) (fun c_77 => ?_) (fun c_77 => ?_)
      · skip
        refine lv_aload_n S.1 S.2.1 dX3_merge_98 rfl (lv_at hl 2 rfl) ?_
        refine o_get S hG i_X3 (by decide) hM.1 rfl 0 (by decide) kf_29 rfl dX3_merge_99 ?_
        refine o_put S hG i_X3 tyX3_ok nmX3 (by decide) hM.1 rfl 0 (by decide) kf_29 rfl rfl rfl (Nat.le_of_ble_eq_true rfl) dX3_merge_102 (fun H locs hG => ?_)
        obtain ⟨f_2, ef_2, hG⟩ := ov_name hG
        have hM := hM.u0 (cd2 := 1) ef_2
        have hO := hO.up ef_2 (by decide)
        refine lv_aload_n S.1 S.2.1 dX3_merge_105 rfl (lv_at hl 2 rfl) ?_
        refine o_get S hG i_X3 (by decide) hM.1 rfl 0 (by decide) kf_29 rfl dX3_merge_106 ?_
        refine lv_if_le (tgt := 114) S.1 S.2.1 dX3_merge_109 (by decide) (fun c_109 => ?_) (fun c_109 => ?_)
        · skip
          exact absurd c_109 (by decide)
        · skip
          refine lv_iconst (v := (nI 0)) S.1 S.2.1 dX3_merge_112 (by decide) ?_
          exact ret _ _ _ _ _ _ _ _ hG ⟨hO, Or.inr ⟨c_6, hM⟩⟩ rfl (Nat.le_of_ble_eq_true rfl) (Nat.le_of_ble_eq_true rfl) dX3_merge_113
      · skip
        exact absurd c_77 (by decide)
    · skip
      exact absurd c_25 (by decide)
  · skip
    obtain ⟨j, hj2, rfl, hj3⟩ := isv_ex c_6
    have hnj := hW j (by omega) hj3
    refine lv_iconst (v := (nI 0)) S.1 S.2.1 dX3_merge_9 (by decide) ?_
    refine lv_goto (tgt := 14) S.1 S.2.1 dX3_merge_10 (by decide) ?_
    refine o_put S hG i_X3 tyX3_ok nmX3 (by decide) hM.1 rfl 0 (by decide) kf_29 rfl rfl rfl (Nat.le_of_ble_eq_true rfl) dX3_merge_14 (fun H locs hG => ?_)
    obtain ⟨f_3, ef_3, hG⟩ := ov_name hG
    have hM := hM.u0 (cd2 := 0) ef_3
    have hO := hO.up ef_3 (by decide)
    refine lv_iconst (v := (nI 0)) S.1 S.2.1 dX3_merge_17 (by decide) ?_
    refine lv_istore_n (lv' := [(2, .int (nI 0)), (0, .ref (ad 76)), (1, .int (nI j))]) S.1 S.2.1 dX3_merge_18 rfl hl (by decide) rfl (fun ls hl => ?_)
    refine lv_iconst (v := (nI 0)) S.1 S.2.1 dX3_merge_19 (by decide) ?_
    refine lv_istore_n (lv' := [(3, .int (nI 0)), (2, .int (nI 0)), (0, .ref (ad 76)), (1, .int (nI j))]) S.1 S.2.1 dX3_merge_20 rfl hl (by decide) rfl (fun ls hl => ?_)
    have L_21 : ∀ (d9 : Nat) (c0 : Nat) (i : Nat) (H : Heap) (locs : List Loc), (i ≤ sz j) → (c0 = cnt i (fun z => !hs (sz 0) (of K 0) (of K j z))) → (sz j - i) < d9 → ov_dy G 84 ad s0 s f_3 H locs → ∀ ls : Array Slot, lv_has ls 5 [(0, .ref (ad 76)), (1, .int (nI j)), (2, .int (nI c0)), (3, .int (nI i))] → W p l e (ov_rm 2 47 0 0) s m av below meth c H locs 0 0 Q (F0 m 21 ls []) := by
      intro d9
      induction d9 with
      | zero => intro c0 i H locs hi hc h9; exact absurd h9 (Nat.not_lt_zero _)
      | succ d9 ih_21 =>
        intro c0 i H locs hi hc h9 hG ls hl
        refine lv_aload_n S.1 S.2.1 dX3_merge_21 rfl (lv_at hl 0 rfl) ?_
        refine o_get S hG i_X3 (by decide) hM.1 rfl 0 (by decide) kf_29 rfl dX3_merge_22 ?_
        refine n_if_ne S (a := 0) (tgt := 72) dX3_merge_25 (by decide) (by omega) (fun c_25 => ?_) (fun c_25 => ?_)
        · skip
          exact absurd c_25 (by decide)
        · skip
          refine lv_iload_n S.1 S.2.1 dX3_merge_28 rfl (lv_at hl 3 rfl) ?_
          refine lv_aload_n S.1 S.2.1 dX3_merge_29 rfl (lv_at hl 0 rfl) ?_
          refine o_get S hG i_X3 (by decide) hM.1 rfl 3 (by decide) kf_16 rfl dX3_merge_30 ?_
          refine lv_iload_n S.1 S.2.1 dX3_merge_33 rfl (lv_at hl 1 rfl) ?_
          refine o_iald S hG (j := j) (by decide) hM.2.2.2.1 (by omega) dX3_merge_34 (kk := ?_)
          refine n_ge S (a := i) (b := sz j) (tgt := 72) dX3_merge_35 (by decide) (by omega) (by omega) (fun c_35 => ?_) (fun c_35 => ?_)
          · skip
            obtain rfl : i = sz j := by omega
            have hcl := cnt_le (sz j) (fun z => !hs (sz 0) (of K 0) (of K j z))
            refine lv_aload_n S.1 S.2.1 dX3_merge_72 rfl (lv_at hl 0 rfl) ?_
            refine lv_aload_n S.1 S.2.1 dX3_merge_73 rfl (lv_at hl 0 rfl) ?_
            refine o_get S hG i_X3 (by decide) hM.1 rfl 0 (by decide) kf_29 rfl dX3_merge_74 ?_
            refine n_if_ne S (a := 0) (tgt := 98) dX3_merge_77 (by decide) (by omega) (fun c_77 => ?_) (fun c_77 => ?_)
            · skip
              exact absurd c_77 (by decide)
            · skip
              refine lv_aload_n S.1 S.2.1 dX3_merge_80 rfl (lv_at hl 0 rfl) ?_
              refine o_get S hG i_X3 (by decide) hM.1 rfl 3 (by decide) kf_16 rfl dX3_merge_81 ?_
              refine lv_iconst (v := (nI 0)) S.1 S.2.1 dX3_merge_84 (by decide) ?_
              refine o_iald S hG (j := 0) (by decide) hM.2.2.2.1 (by omega) dX3_merge_85 (kk := ?_)
              refine lv_iload_n S.1 S.2.1 dX3_merge_86 rfl (lv_at hl 2 rfl) ?_
              refine o_add S (a := sz 0) (b := c0) dX3_merge_87 ?_
              refine lv_sipush (v := (nI 600)) S.1 S.2.1 dX3_merge_88 (by decide) ?_
              refine n_le S (a := (sz 0) + c0) (b := 600) (tgt := 98) dX3_merge_91 (by decide) (by omega) (by omega) (fun c_91 => ?_) (fun c_91 => ?_)
              · skip
                refine lv_aload_n S.1 S.2.1 dX3_merge_98 rfl (lv_at hl 0 rfl) ?_
                refine o_get S hG i_X3 (by decide) hM.1 rfl 0 (by decide) kf_29 rfl dX3_merge_99 ?_
                refine o_put S hG i_X3 tyX3_ok nmX3 (by decide) hM.1 rfl 0 (by decide) kf_29 rfl rfl rfl (Nat.le_of_ble_eq_true rfl) dX3_merge_102 (fun H locs hG => ?_)
                obtain ⟨f_4, ef_4, hG⟩ := ov_name hG
                have hM := hM.u0 (cd2 := 0) ef_4
                have hO := hO.up ef_4 (by decide)
                refine lv_aload_n S.1 S.2.1 dX3_merge_105 rfl (lv_at hl 0 rfl) ?_
                refine o_get S hG i_X3 (by decide) hM.1 rfl 0 (by decide) kf_29 rfl dX3_merge_106 ?_
                refine lv_if_le (tgt := 114) S.1 S.2.1 dX3_merge_109 (by decide) (fun c_109 => ?_) (fun c_109 => ?_)
                · skip
                  refine lv_iconst (v := (nI 0)) S.1 S.2.1 dX3_merge_114 (by decide) ?_
                  refine lv_istore_n (lv' := [(3, .int (nI 0)), (0, .ref (ad 76)), (1, .int (nI j)), (2, .int (nI c0))]) S.1 S.2.1 dX3_merge_115 rfl hl (by decide) rfl (fun ls hl => ?_)
                  rcases Nat.eq_zero_or_pos c0 with h0 | h0
                  · skip
                    refine lv_iload_n S.1 S.2.1 dX3_merge_116 rfl (lv_at hl 0 rfl) ?_
                    refine lv_aload_n S.1 S.2.1 dX3_merge_117 rfl (lv_at hl 1 rfl) ?_
                    refine o_get S hG i_X3 (by decide) hM.1 rfl 3 (by decide) kf_16 rfl dX3_merge_118 ?_
                    refine lv_iload_n S.1 S.2.1 dX3_merge_121 rfl (lv_at hl 2 rfl) ?_
                    refine o_iald S hG (j := j) (by decide) hM.2.2.2.1 (by omega) dX3_merge_122 (kk := ?_)
                    refine n_ge S (a := 0) (b := sz j) (tgt := 178) dX3_merge_123 (by decide) (by omega) (by omega) (fun c_123 => ?_) (fun c_123 => ?_)
                    · skip
                      refine lv_iload_n S.1 S.2.1 dX3_merge_178 rfl (lv_at hl 3 rfl) ?_
                      exact ret _ _ _ _ _ _ _ _ hG ⟨hO, Or.inl ⟨j, hj2, rfl, hj3, Or.inl ⟨by omega, by rw [hc], K, V, by rw [← hc, h0, Nat.add_zero, up_id]; exact hM, by rw [← hc, h0]; exact hS 0 (by decide) h00, fun x y => by rw [← hc, h0]; exact MG9_z (hc.symm.trans h0) x y, fun _ _ => ⟨rfl, rfl⟩⟩⟩⟩ rfl (Nat.le_of_ble_eq_true rfl) (Nat.le_of_ble_eq_true rfl) dX3_merge_179
                    · skip
                      refine lv_iload_n S.1 S.2.1 dX3_merge_126 rfl (lv_at hl 3 rfl) ?_
                      refine lv_if_le (tgt := 178) S.1 S.2.1 dX3_merge_127 (by decide) (fun c_127 => ?_) (fun c_127 => ?_)
                      · skip
                        refine lv_iload_n S.1 S.2.1 dX3_merge_178 rfl (lv_at hl 3 rfl) ?_
                        exact ret _ _ _ _ _ _ _ _ hG ⟨hO, Or.inl ⟨j, hj2, rfl, hj3, Or.inl ⟨by omega, by rw [hc], K, V, by rw [← hc, h0, Nat.add_zero, up_id]; exact hM, by rw [← hc, h0]; exact hS 0 (by decide) h00, fun x y => by rw [← hc, h0]; exact MG9_z (hc.symm.trans h0) x y, fun _ _ => ⟨rfl, rfl⟩⟩⟩⟩ rfl (Nat.le_of_ble_eq_true rfl) (Nat.le_of_ble_eq_true rfl) dX3_merge_179
                      · skip
                        exact absurd (by rw [h0]; decide) c_127
                  · skip
                    have hj0 : j ≠ 0 := fun e => by subst e; rw [hc, cnt_self (hS 0 (by decide) hj3)] at h0; exact absurd h0 (Nat.lt_irrefl _)
                    have L_116 : ∀ (d9 : Nat) (i : Nat) (s9 : Nat) (kk : Nat → Int32) (vv : Nat → Int32) (f2 : Nat → va_E) (H : Heap) (locs : List Loc), (MB G ad f2 0 kk vv (va_up sz 0 s9) th pl dn) → (OnM f f2) → (i ≤ sz j) → (MG9 (sz 0) (of K 0) (of V 0) (of K j) (of V j) i s9 (of kk 0) (of vv 0)) → (∀ i, 600 ≤ i → kk i = K i ∧ vv i = V i) → (sz j - i) < d9 → ov_dy G 84 ad s0 s f2 H locs → ∀ ls : Array Slot, lv_has ls 5 [(0, .ref (ad 76)), (1, .int (nI j)), (2, .int (nI c0)), (3, .int (nI i))] → W p l e (ov_rm 2 47 0 0) s m av below meth c H locs 0 0 Q (F0 m 116 ls []) := by
                      intro d9
                      induction d9 with
                      | zero => intro i s9 kk vv f2 H locs hM hO hi hg hk8 h9; exact absurd h9 (Nat.not_lt_zero _)
                      | succ d9 ih_116 =>
                        intro i s9 kk vv f2 H locs hM hO hi hg hk8 h9 hG ls hl
                        have hs6 : s9 ≤ 600 := by have a1 := hg.1; have a2 := cnt_mono (p := (fun z => !hs (sz 0) (of K 0) (of K j z))) hi; omega
                        refine lv_iload_n S.1 S.2.1 dX3_merge_116 rfl (lv_at hl 3 rfl) ?_
                        refine lv_aload_n S.1 S.2.1 dX3_merge_117 rfl (lv_at hl 0 rfl) ?_
                        refine o_get S hG i_X3 (by decide) hM.1 rfl 3 (by decide) kf_16 rfl dX3_merge_118 ?_
                        refine lv_iload_n S.1 S.2.1 dX3_merge_121 rfl (lv_at hl 1 rfl) ?_
                        refine o_iald S hG (j := j) (by decide) hM.2.2.2.1 (by omega) dX3_merge_122 (kk := ?_)
                        refine o_top (congrArg nI (va_up_ne sz _ hj0)) ?_
                        refine n_ge S (a := i) (b := sz j) (tgt := 178) dX3_merge_123 (by decide) (by omega) (by omega) (fun c_123 => ?_) (fun c_123 => ?_)
                        · skip
                          obtain rfl : i = sz j := by omega
                          have hse := hg.1
                          refine lv_iload_n S.1 S.2.1 dX3_merge_178 rfl (lv_at hl 2 rfl) ?_
                          exact ret _ _ _ _ _ _ _ _ hG ⟨hO, Or.inl ⟨j, hj2, rfl, hj3, Or.inl ⟨by omega, by rw [hc], kk, vv, by rw [← hse]; exact hM, by rw [← hse]; exact hg.2.1, fun x y => by rw [← hse]; exact MG9_e hg x y, hk8⟩⟩⟩ rfl (Nat.le_of_ble_eq_true rfl) (Nat.le_of_ble_eq_true rfl) dX3_merge_179
                        · skip
                          refine lv_iload_n S.1 S.2.1 dX3_merge_126 rfl (lv_at hl 2 rfl) ?_
                          refine lv_if_le (tgt := 178) S.1 S.2.1 dX3_merge_127 (by decide) (fun c_127 => ?_) (fun c_127 => ?_)
                          · skip
                            exact absurd c_127 (nI_nle h0 (by omega))
                          · skip
                            refine lv_sipush (v := (nI 600)) S.1 S.2.1 dX3_merge_130 (by decide) ?_
                            refine lv_iload_n S.1 S.2.1 dX3_merge_133 rfl (lv_at hl 1 rfl) ?_
                            refine o_mul S (a := 600) (b := j) dX3_merge_134 ?_
                            refine lv_iload_n S.1 S.2.1 dX3_merge_135 rfl (lv_at hl 3 rfl) ?_
                            refine o_add S (a := 600 * j) (b := i) dX3_merge_136 ?_
                            refine lv_istore (lv' := [(4, .int (nI ((600 * j) + i))), (0, .ref (ad 76)), (1, .int (nI j)), (2, .int (nI c0)), (3, .int (nI i))]) S.1 S.2.1 dX3_merge_137 hl (by decide) rfl (fun ls hl => ?_)
                            refine lv_aload_n S.1 S.2.1 dX3_merge_139 rfl (lv_at hl 1 rfl) ?_
                            refine lv_iconst (v := (nI 0)) S.1 S.2.1 dX3_merge_140 (by decide) ?_
                            refine lv_aload_n S.1 S.2.1 dX3_merge_141 rfl (lv_at hl 1 rfl) ?_
                            refine o_get S hG i_X3 (by decide) hM.1 rfl 1 (by decide) kf_7 rfl dX3_merge_142 ?_
                            refine lv_iload S.1 S.2.1 dX3_merge_145 (lv_at hl 0 rfl) ?_
                            refine o_iald S hG (j := (600 * j) + i) (by decide) hM.2.1 (by omega) dX3_merge_147 (kk := ?_)
                            refine o_cVi S (rest := []) (c_X3_has l G ad s0 f2 0 kk vv (va_up sz 0 s9) th pl dn 0 (kk ((600 * j) + i)) hM (by decide) (by rw [va_up_self]; exact hs6)) (cwV 2 S.2.2.2.2 gX3_merge_X3_has rfl rfl rfl (by decide +kernel) ⟨(Nat.le_of_ble_eq_true rfl), (Nat.le_of_ble_eq_true rfl)⟩) hG (by decide) hM.1 rfl rfl hl.1 rfl (Nat.le_of_ble_eq_true rfl) dX3_merge_148 ⟨(Nat.le_of_ble_eq_true rfl), (Nat.le_of_ble_eq_true rfl)⟩ (fun r9 f9 H locs hp hG => ?_)
                            obtain ⟨rfl, rfl⟩ := hp
                            have hki := hk8 (600 * j + i) (by omega)
                            refine o_top (show _ = bI (hs s9 (of kk 0) (of K j i)) from by rw [va_up_self, hki.1]; rfl) ?_
                            have hcur := MG9_h (hS 0 (by decide) h00) (hS j (by omega) hj3) (by omega) hg
                            refine b_if_ne S (b := (hs s9 (of kk 0) (of K j i))) (tgt := 172) dX3_merge_151 (by decide) (fun c_151 => ?_) (fun c_151 => ?_)
                            · skip
                              refine lv_iinc (v := (nI (i + 1))) (lv' := [(3, .int (nI (i + 1))), (4, .int (nI ((600 * j) + i))), (0, .ref (ad 76)), (1, .int (nI j)), (2, .int (nI c0))]) S.1 S.2.1 dX3_merge_172 hl (k := 4) rfl (nI_add i 1) (by decide) rfl (fun ls hl => ?_)
                              refine lv_goto (tgt := 116) S.1 S.2.1 dX3_merge_175 (by decide) ?_
                              exact ih_116 (i + 1) s9 kk vv f2 _ _ hM hO (by omega) (MG9_t hg (hcur ▸ c_151)) hk8 (by omega) hG ls (lv_sub hl [2, 3, 4, 0] rfl)
                            · skip
                              have hno : hs (sz 0) (of K 0) (of K j i) = false := hcur ▸ c_151
                              have hlt : s9 < 600 := by have a1 := hg.1; have a2 := cnt_mono (p := (fun z => !hs (sz 0) (of K 0) (of K j z))) (show i + 1 ≤ sz j by omega); rw [cnt_t (by simp [hno])] at a2; omega
                              refine lv_aload_n S.1 S.2.1 dX3_merge_154 rfl (lv_at hl 1 rfl) ?_
                              refine lv_aload_n S.1 S.2.1 dX3_merge_155 rfl (lv_at hl 1 rfl) ?_
                              refine o_get S hG i_X3 (by decide) hM.1 rfl 1 (by decide) kf_7 rfl dX3_merge_156 ?_
                              refine lv_iload S.1 S.2.1 dX3_merge_159 (lv_at hl 0 rfl) ?_
                              refine o_iald S hG (j := (600 * j) + i) (by decide) hM.2.1 (by omega) dX3_merge_161 (kk := ?_)
                              refine lv_aload_n S.1 S.2.1 dX3_merge_162 rfl (lv_at hl 1 rfl) ?_
                              refine o_get S hG i_X3 (by decide) hM.1 rfl 2 (by decide) kf_13 rfl dX3_merge_163 ?_
                              refine lv_iload S.1 S.2.1 dX3_merge_166 (lv_at hl 0 rfl) ?_
                              refine o_iald S hG (j := (600 * j) + i) (by decide) hM.2.2.1 (by omega) dX3_merge_168 (kk := ?_)
                              refine o_cVv S (rest := []) (c_X3_insert l G ad s0 f2 0 kk vv (va_up sz 0 s9) th pl dn (kk ((600 * j) + i)) (vv ((600 * j) + i)) hM (by rw [va_up_self]; exact hlt)) (cwV 2 S.2.2.2.2 gX3_merge_X3_insert rfl rfl rfl (by decide +kernel) ⟨(Nat.le_of_ble_eq_true rfl), (Nat.le_of_ble_eq_true rfl)⟩) hG (by decide) hM.1 rfl rfl hl.1 rfl (Nat.le_of_ble_eq_true rfl) dX3_merge_169 ⟨(Nat.le_of_ble_eq_true rfl), (Nat.le_of_ble_eq_true rfl)⟩ (fun f9 H locs hp hG => ?_)
                              obtain ⟨hO9, K2, V2, hM, hk9, hk7⟩ := hp
                              have hO := hO.tr hO9
                              rw [va_up_self] at hM hk9
                              rw [bx_uu] at hM
                              refine lv_iinc (v := (nI (i + 1))) (lv' := [(3, .int (nI (i + 1))), (4, .int (nI ((600 * j) + i))), (0, .ref (ad 76)), (1, .int (nI j)), (2, .int (nI c0))]) S.1 S.2.1 dX3_merge_172 hl (k := 4) rfl (nI_add i 1) (by decide) rfl (fun ls hl => ?_)
                              refine lv_goto (tgt := 116) S.1 S.2.1 dX3_merge_175 (by decide) ?_
                              exact ih_116 (i + 1) (s9 + 1) K2 V2 f9 _ _ hM hO (by omega) (MG9_c (MG9_f hg hno c_151) (mg_eq (by have h8 := hk9; rw [hki.1, hki.2] at h8; exact h8))) (fun i h => ⟨(hk7 i h).1.trans (hk8 i h).1, (hk7 i h).2.trans (hk8 i h).2⟩) (by omega) hG ls (lv_sub hl [2, 3, 4, 0] rfl)
                    exact L_116 _ 0 (sz 0) K V f_4 _ _ (by rw [up_id]; exact hM) hO (Nat.zero_le _) (MG9_0 (hS 0 (by decide) h00)) (fun _ _ => ⟨rfl, rfl⟩) (Nat.lt_succ_self _) hG ls (lv_sub hl [1, 2, 3, 0] rfl)
                · skip
                  exact absurd c_109 (by decide)
              · skip
                refine lv_iconst (v := (nI 2)) S.1 S.2.1 dX3_merge_94 (by decide) ?_
                refine lv_goto (tgt := 102) S.1 S.2.1 dX3_merge_95 (by decide) ?_
                refine o_put S hG i_X3 tyX3_ok nmX3 (by decide) hM.1 rfl 0 (by decide) kf_29 rfl rfl rfl (Nat.le_of_ble_eq_true rfl) dX3_merge_102 (fun H locs hG => ?_)
                obtain ⟨f_5, ef_5, hG⟩ := ov_name hG
                have hM := hM.u0 (cd2 := 2) ef_5
                have hO := hO.up ef_5 (by decide)
                refine lv_aload_n S.1 S.2.1 dX3_merge_105 rfl (lv_at hl 0 rfl) ?_
                refine o_get S hG i_X3 (by decide) hM.1 rfl 0 (by decide) kf_29 rfl dX3_merge_106 ?_
                refine lv_if_le (tgt := 114) S.1 S.2.1 dX3_merge_109 (by decide) (fun c_109 => ?_) (fun c_109 => ?_)
                · skip
                  exact absurd c_109 (by decide)
                · skip
                  refine lv_iconst (v := (nI 0)) S.1 S.2.1 dX3_merge_112 (by decide) ?_
                  exact ret _ _ _ _ _ _ _ _ hG ⟨hO, Or.inl ⟨j, hj2, rfl, hj3, Or.inr ⟨by omega, hM⟩⟩⟩ rfl (Nat.le_of_ble_eq_true rfl) (Nat.le_of_ble_eq_true rfl) dX3_merge_113
          · skip
            refine lv_iload_n S.1 S.2.1 dX3_merge_38 rfl (lv_at hl 2 rfl) ?_
            refine lv_aload_n S.1 S.2.1 dX3_merge_39 rfl (lv_at hl 0 rfl) ?_
            refine lv_iconst (v := (nI 0)) S.1 S.2.1 dX3_merge_40 (by decide) ?_
            refine lv_aload_n S.1 S.2.1 dX3_merge_41 rfl (lv_at hl 0 rfl) ?_
            refine o_get S hG i_X3 (by decide) hM.1 rfl 1 (by decide) kf_7 rfl dX3_merge_42 ?_
            refine lv_sipush (v := (nI 600)) S.1 S.2.1 dX3_merge_45 (by decide) ?_
            refine lv_iload_n S.1 S.2.1 dX3_merge_48 rfl (lv_at hl 1 rfl) ?_
            refine o_mul S (a := 600) (b := j) dX3_merge_49 ?_
            refine lv_iload_n S.1 S.2.1 dX3_merge_50 rfl (lv_at hl 3 rfl) ?_
            refine o_add S (a := 600 * j) (b := i) dX3_merge_51 ?_
            refine o_iald S hG (j := (600 * j) + i) (by decide) hM.2.1 (by omega) dX3_merge_52 (kk := ?_)
            refine o_cVi S (rest := [.int (nI c0)]) (c_X3_has l G ad s0 f_3 0 K V sz th pl dn 0 (K ((600 * j) + i)) hM (by omega) (by omega)) (cwV 2 S.2.2.2.2 gX3_merge_X3_has rfl rfl rfl (by decide +kernel) ⟨(Nat.le_of_ble_eq_true rfl), (Nat.le_of_ble_eq_true rfl)⟩) hG (by decide) hM.1 rfl rfl hl.1 rfl (Nat.le_of_ble_eq_true rfl) dX3_merge_53 ⟨(Nat.le_of_ble_eq_true rfl), (Nat.le_of_ble_eq_true rfl)⟩ (fun r9 f9 H locs hp hG => ?_)
            obtain ⟨rfl, rfl⟩ := hp
            refine b_if_eq S (b := (hs (sz 0) (of K 0) (K ((600 * j) + i)))) (tgt := 63) dX3_merge_56 (by decide) (fun c_56 => ?_) (fun c_56 => ?_)
            · skip
              refine lv_iconst (v := (nI 1)) S.1 S.2.1 dX3_merge_63 (by decide) ?_
              refine o_add S (a := c0) (b := 1) dX3_merge_64 ?_
              refine lv_istore_n (lv' := [(2, .int (nI (c0 + 1))), (0, .ref (ad 76)), (1, .int (nI j)), (3, .int (nI i))]) S.1 S.2.1 dX3_merge_65 rfl hl (by decide) rfl (fun ls hl => ?_)
              refine lv_iinc (v := (nI (i + 1))) (lv' := [(3, .int (nI (i + 1))), (2, .int (nI (c0 + 1))), (0, .ref (ad 76)), (1, .int (nI j))]) S.1 S.2.1 dX3_merge_66 hl (k := 3) rfl (nI_add i 1) (by decide) rfl (fun ls hl => ?_)
              refine lv_goto (tgt := 21) S.1 S.2.1 dX3_merge_69 (by decide) ?_
              exact ih_21 (c0 + 1) (i + 1) _ _ (by omega) (by rw [hc]; exact (cnt_t (n := i) (p := (fun z => !hs (sz 0) (of K 0) (of K j z))) (congrArg Bool.not c_56)).symm) (by omega) hG ls (lv_sub hl [2, 3, 1, 0] rfl)
            · skip
              refine lv_iconst (v := (nI 0)) S.1 S.2.1 dX3_merge_59 (by decide) ?_
              refine lv_goto (tgt := 64) S.1 S.2.1 dX3_merge_60 (by decide) ?_
              refine o_add S (a := c0) (b := 0) dX3_merge_64 ?_
              refine lv_istore_n (lv' := [(2, .int (nI (c0 + 0))), (0, .ref (ad 76)), (1, .int (nI j)), (3, .int (nI i))]) S.1 S.2.1 dX3_merge_65 rfl hl (by decide) rfl (fun ls hl => ?_)
              refine lv_iinc (v := (nI (i + 1))) (lv' := [(3, .int (nI (i + 1))), (2, .int (nI (c0 + 0))), (0, .ref (ad 76)), (1, .int (nI j))]) S.1 S.2.1 dX3_merge_66 hl (k := 3) rfl (nI_add i 1) (by decide) rfl (fun ls hl => ?_)
              refine lv_goto (tgt := 21) S.1 S.2.1 dX3_merge_69 (by decide) ?_
              exact ih_21 (c0 + 0) (i + 1) _ _ (by omega) (by rw [hc]; exact (cnt_f (n := i) (p := (fun z => !hs (sz 0) (of K 0) (of K j z))) (congrArg Bool.not c_56)).symm) (by omega) hG ls (lv_sub hl [2, 3, 1, 0] rfl)
    exact L_21 _ 0 0 _ _ (Nat.zero_le _) rfl (Nat.lt_succ_self _) hG ls (lv_sub hl [2, 3, 1, 0] rfl)

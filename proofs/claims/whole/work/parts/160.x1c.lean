set_option maxHeartbeats 4000000 in
set_option maxRecDepth 100000 in
theorem c_X1_takeOver (l : Launch) (G : Gx) (N : Nat) (ad : Nat → Nat) (s0 : Nat) (f : Nat → va_E) (t n : Nat) (k v : Nat → Int32) (o n2 : Nat) (k2 v2 : Nat → Int32) (q : Nat) (hT : TB G N ad f t n k v) (hU : TB G N ad f o n2 k2 v2) (hap : t + 2 < o ∨ o + 2 < t) (hSk : Srt n k) (hS2 : Srt n2 k2) (hq : q = cnt n2 (fun j => !hs n k (k2 j))) (hq9 : n + q ≤ 600) : mV l yX1_takeOver wsX1_takeOver 2 43 0 0 [.ref (ad t), .ref (ad o), .int (nI q)] G N ad s0 f (fun f' => ∃ k3 v3, TB G N ad f' t (n + q) k3 v3 ∧ Onl t f f' ∧ Srt (n + q) k3 ∧ ∀ x y, Has (n + q) k3 v3 x y ↔ Has n k v x y ∨ (hs n k x = false ∧ Has n2 k2 v2 x y)) := by
  refine ov_mV (cc := cX1_takeOver) (maxL := 7) (by decide) rfl (Nat.le_of_ble_eq_true rfl) ?_
  intro p e s m below meth c av Q S ret hG ls hl
  have S : CallFix p m c cX1_takeOver 7 s av wsX1_takeOver RX1 := S
  have hl : lv_has ls 7 [(0, .ref (ad t)), (1, .ref (ad o)), (2, .int (nI q))] := hl
  have i_X1 : ∀ w ∈ u_ws RX1 TX1 3, w ∈ wsX1_takeOver := by decide +kernel
  have kf_9 := S.2.2.2.2 (.fieldLink RX1 9 "OrderedVersions$Table" "keys" "[I") (by decide +kernel)
  have kf_15 := S.2.2.2.2 (.fieldLink RX1 15 "OrderedVersions$Table" "values" "[I") (by decide +kernel)
  have kf_18 := S.2.2.2.2 (.fieldLink RX1 18 "OrderedVersions$Table" "count" "I") (by decide +kernel)
  have hTn := hT.2.2.2.1
  have hTN := hT.2.2.2.2
  have hUn := hU.2.2.2.1
  have hUN := hU.2.2.2.2
  have hO : Onl t f f := Onl.rf
  refine lv_aload_n S.1 S.2.1 dX1_takeOver_0 rfl (lv_at hl 0 rfl) ?_
  refine o_get S hG i_X1 hT.lt0 hT.1 rfl 2 (by decide) kf_18 rfl dX1_takeOver_1 ?_
  refine lv_iconst (v := (nI 1)) S.1 S.2.1 dX1_takeOver_4 (by decide) ?_
  refine lv_isub S.1 S.2.1 dX1_takeOver_5 ?_
  refine o_top (rfl) ?_
  refine lv_istore_n (lv' := [(3, .int (pI n)), (0, .ref (ad t)), (1, .ref (ad o)), (2, .int (nI q))]) S.1 S.2.1 dX1_takeOver_6 rfl hl (by decide) rfl (fun ls hl => ?_)
  refine lv_iload_n S.1 S.2.1 dX1_takeOver_7 rfl (lv_at hl 0 rfl) ?_
  refine lv_iload_n S.1 S.2.1 dX1_takeOver_8 rfl (lv_at hl 3 rfl) ?_
  refine lv_iadd S.1 S.2.1 dX1_takeOver_9 ?_
  refine o_top (pI_add) ?_
  refine lv_istore (lv' := [(4, .int (pI (n + q))), (3, .int (pI n)), (0, .ref (ad t)), (1, .ref (ad o)), (2, .int (nI q))]) S.1 S.2.1 dX1_takeOver_10 hl (by decide) rfl (fun ls hl => ?_)
  refine lv_aload_n S.1 S.2.1 dX1_takeOver_12 rfl (lv_at hl 3 rfl) ?_
  refine o_get S hG i_X1 hU.lt0 hU.1 rfl 2 (by decide) kf_18 rfl dX1_takeOver_13 ?_
  refine lv_iconst (v := (nI 1)) S.1 S.2.1 dX1_takeOver_16 (by decide) ?_
  refine lv_isub S.1 S.2.1 dX1_takeOver_17 ?_
  refine o_top (rfl) ?_
  refine lv_istore (lv' := [(5, .int (pI n2)), (4, .int (pI (n + q))), (3, .int (pI n)), (0, .ref (ad t)), (1, .ref (ad o)), (2, .int (nI q))]) S.1 S.2.1 dX1_takeOver_18 hl (by decide) rfl (fun ls hl => ?_)
  have L_20 : ∀ (d9 : Nat) (a : Nat) (b : Nat) (c0 : Nat) (kk : Nat → Int32) (vv : Nat → Int32) (f2 : Nat → va_E) (H : Heap) (locs : List Loc), (TB G N ad f2 t n kk vv) → (TB G N ad f2 o n2 k2 v2) → (Onl t f f2) → (TO n k v n2 k2 v2 q a b c0 kk vv) → c0 < d9 → ov_dy G N ad s0 s f2 H locs → ∀ ls : Array Slot, lv_has ls 7 [(0, .ref (ad t)), (1, .ref (ad o)), (2, .int (nI q)), (3, .int (pI a)), (4, .int (pI b)), (5, .int (pI c0))] → W p l e (ov_rm 2 43 0 0) s m av below meth c H locs 0 0 Q (F0 m 20 ls []) := by
    intro d9
    induction d9 with
    | zero => intro a b c0 kk vv f2 H locs hT hU hO hI h9; exact absurd h9 (Nat.not_lt_zero _)
    | succ d9 ih_20 =>
      intro a b c0 kk vv f2 H locs hT hU hO hI h9 hG ls hl
      have hIc := hI.2.1
      refine lv_iload S.1 S.2.1 dX1_takeOver_20 (lv_at hl 5 rfl) ?_
      refine lv_if_lt (tgt := 126) S.1 S.2.1 dX1_takeOver_22 (by decide) (fun c_22 => ?_) (fun c_22 => ?_)
      · skip
        have ec := pI_neg (by omega) c_22
        subst ec
        refine lv_aload_n S.1 S.2.1 dX1_takeOver_126 rfl (lv_at hl 0 rfl) ?_
        refine lv_dup S.1 S.2.1 dX1_takeOver_127 rfl ?_
        refine o_get S hG i_X1 hT.lt0 hT.1 rfl 2 (by decide) kf_18 rfl dX1_takeOver_128 ?_
        refine lv_iload_n S.1 S.2.1 dX1_takeOver_131 rfl (lv_at hl 2 rfl) ?_
        refine o_add S (a := n) (b := q) dX1_takeOver_132 ?_
        refine o_put S hG i_X1 tyX1_ok nmX1 hT.lt0 hT.1 rfl 2 (by decide) kf_18 rfl rfl rfl (Nat.le_of_ble_eq_true rfl) dX1_takeOver_133 (fun H locs hG => ?_)
        obtain ⟨f_1, ef_1, hG⟩ := ov_name hG
        have hT := hT.upn ef_1 (n2 := n + q) (by omega)
        have hU := hU.ne ef_1 (by omega) (by omega) (by omega)
        have hO := hO.up ef_1 (by omega)
        exact ret _ _ _ _ _ _ _ hG ⟨_, _, hT, hO, TO_end hSk hI⟩ (Nat.le_of_ble_eq_true rfl) (Nat.le_of_ble_eq_true rfl) dX1_takeOver_136
      · skip
        obtain ⟨c1, rfl⟩ := pI_pos (by omega) c_22
        simp only [pI_succ] at hl
        refine lv_aload_n S.1 S.2.1 dX1_takeOver_25 rfl (lv_at hl 1 rfl) ?_
        refine o_get S hG i_X1 hU.lt0 hU.1 rfl 0 (by decide) kf_9 rfl dX1_takeOver_26 ?_
        refine lv_iload S.1 S.2.1 dX1_takeOver_29 (lv_at hl 5 rfl) ?_
        refine o_iald S hG (j := c1) hU.lt1 hU.2.1 (by omega) dX1_takeOver_31 (kk := ?_)
        refine lv_istore (lv' := [(6, .int (k2 c1)), (0, .ref (ad t)), (1, .ref (ad o)), (2, .int (nI q)), (3, .int (pI a)), (4, .int (pI b)), (5, .int (nI c1))]) S.1 S.2.1 dX1_takeOver_32 hl (by decide) rfl (fun ls hl => ?_)
        have L_34 : ∀ (d9 : Nat) (a : Nat) (b : Nat) (kk : Nat → Int32) (vv : Nat → Int32) (f3 : Nat → va_E) (H : Heap) (locs : List Loc), (TB G N ad f3 t n kk vv) → (TB G N ad f3 o n2 k2 v2) → (Onl t f f3) → (TO n k v n2 k2 v2 q a b (c1 + 1) kk vv) → a < d9 → ov_dy G N ad s0 s f3 H locs → ∀ ls : Array Slot, lv_has ls 7 [(0, .ref (ad t)), (1, .ref (ad o)), (2, .int (nI q)), (3, .int (pI a)), (4, .int (pI b)), (5, .int (nI c1)), (6, .int (k2 c1))] → W p l e (ov_rm 2 43 0 0) s m av below meth c H locs 0 0 Q (F0 m 34 ls []) := by
          intro d9
          induction d9 with
          | zero => intro a b kk vv f3 H locs hT hU hO hI h9; exact absurd h9 (Nat.not_lt_zero _)
          | succ d9 ih_34 =>
            intro a b kk vv f3 H locs hT hU hO hI h9 hG ls hl
            refine lv_iload_n S.1 S.2.1 dX1_takeOver_34 rfl (lv_at hl 3 rfl) ?_
            refine lv_if_lt (tgt := 84) S.1 S.2.1 dX1_takeOver_35 (by decide) (fun c_35 => ?_) (fun c_35 => ?_)
            · skip
              refine lv_aload_n S.1 S.2.1 dX1_takeOver_84 rfl (lv_at hl 0 rfl) ?_
              refine lv_iload_n S.1 S.2.1 dX1_takeOver_85 rfl (lv_at hl 3 rfl) ?_
              refine lv_iload S.1 S.2.1 dX1_takeOver_86 (lv_at hl 6 rfl) ?_
              refine o_cVi S (rest := []) (c_X1_hasAt l G N ad s0 f3 t n kk vv (pI a) (k2 c1) hT) (cwV 2 S.2.2.2.2 gX1_takeOver_X1_hasAt rfl rfl rfl (by decide +kernel) ⟨(Nat.le_of_ble_eq_true rfl), (Nat.le_of_ble_eq_true rfl)⟩) hG hT.lt0 hT.1 rfl rfl hl.1 rfl (Nat.le_of_ble_eq_true rfl) dX1_takeOver_88 ⟨(Nat.le_of_ble_eq_true rfl), (Nat.le_of_ble_eq_true rfl)⟩ (fun r9 f9 H locs hp hG => ?_)
              obtain ⟨rfl, rfl⟩ := hp
              refine b_if_ne S (b := (ha n kk (pI a) (k2 c1))) (tgt := 120) dX1_takeOver_91 (by decide) (fun c_91 => ?_) (fun c_91 => ?_)
              · skip
                refine lv_iinc (v := (pI c1)) (lv' := [(5, .int (pI c1)), (0, .ref (ad t)), (1, .ref (ad o)), (2, .int (nI q)), (3, .int (pI a)), (4, .int (pI b)), (6, .int (k2 c1))]) S.1 S.2.1 dX1_takeOver_120 hl (k := 5) rfl (pI_inc c1) (by decide) rfl (fun ls hl => ?_)
                refine lv_goto (tgt := 20) S.1 S.2.1 dX1_takeOver_123 (by decide) ?_
                exact ih_20 a b c1 kk vv f3 _ _ hT hU hO (TO_has hI (TO_yes hSk hI c_91 rfl hTn)) (by omega) hG ls (lv_sub hl [1, 2, 3, 4, 5, 0] rfl)
              · skip
                have ea := pI_neg (by have := hI.1; omega) c_35
                subst ea
                have hlt : ∀ j, j < 0 → k j < k2 c1 := fun j h => absurd h (Nat.not_lt_zero _)
                have hno := TO_no hSk hI hlt
                have hIb := hI.2.2.2.1
                obtain ⟨b1, rfl⟩ : ∃ z, b = z + 1 := ⟨b - 1, by have := hI.2.2.1; rw [cnt_t (by simp [hno])] at this; omega⟩
                simp only [pI_succ] at hl
                refine lv_aload_n S.1 S.2.1 dX1_takeOver_94 rfl (lv_at hl 0 rfl) ?_
                refine o_get S hG i_X1 hT.lt0 hT.1 rfl 0 (by decide) kf_9 rfl dX1_takeOver_95 ?_
                refine lv_iload S.1 S.2.1 dX1_takeOver_98 (lv_at hl 4 rfl) ?_
                refine lv_iload S.1 S.2.1 dX1_takeOver_100 (lv_at hl 6 rfl) ?_
                refine o_iast S hG (j := b1) hT.lt1 hT.2.1 (by omega) dX1_takeOver_102 (kk := fun H locs hG => ?_)
                obtain ⟨f_2, ef_2, hG⟩ := ov_name hG
                have hT := hT.upk ef_2
                have hU := hU.ne ef_2 (by omega) (by omega) (by omega)
                have hO := hO.up ef_2 (by omega)
                refine lv_aload_n S.1 S.2.1 dX1_takeOver_103 rfl (lv_at hl 0 rfl) ?_
                refine o_get S hG i_X1 hT.lt0 hT.1 rfl 1 (by decide) kf_15 rfl dX1_takeOver_104 ?_
                refine lv_iload S.1 S.2.1 dX1_takeOver_107 (lv_at hl 4 rfl) ?_
                refine lv_aload_n S.1 S.2.1 dX1_takeOver_109 rfl (lv_at hl 1 rfl) ?_
                refine o_get S hG i_X1 hU.lt0 hU.1 rfl 1 (by decide) kf_15 rfl dX1_takeOver_110 ?_
                refine lv_iload S.1 S.2.1 dX1_takeOver_113 (lv_at hl 5 rfl) ?_
                refine o_iald S hG (j := c1) hU.lt2 hU.2.2.1 (by omega) dX1_takeOver_115 (kk := ?_)
                refine o_iast S hG (j := b1) hT.lt2 hT.2.2.1 (by omega) dX1_takeOver_116 (kk := fun H locs hG => ?_)
                obtain ⟨f_3, ef_3, hG⟩ := ov_name hG
                have hT := hT.upv ef_3
                have hU := hU.ne ef_3 (by omega) (by omega) (by omega)
                have hO := hO.up ef_3 (by omega)
                refine lv_iinc (v := (pI b1)) (lv' := [(4, .int (pI b1)), (0, .ref (ad t)), (1, .ref (ad o)), (2, .int (nI q)), (3, .int (pI 0)), (5, .int (nI c1)), (6, .int (k2 c1))]) S.1 S.2.1 dX1_takeOver_117 hl (k := 4) rfl (pI_inc b1) (by decide) rfl (fun ls hl => ?_)
                refine lv_iinc (v := (pI c1)) (lv' := [(5, .int (pI c1)), (4, .int (pI b1)), (0, .ref (ad t)), (1, .ref (ad o)), (2, .int (nI q)), (3, .int (pI 0)), (6, .int (k2 c1))]) S.1 S.2.1 dX1_takeOver_120 hl (k := 5) rfl (pI_inc c1) (by decide) rfl (fun ls hl => ?_)
                refine lv_goto (tgt := 20) S.1 S.2.1 dX1_takeOver_123 (by decide) ?_
                exact ih_20 0 b1 c1 (upd kk b1 (k2 c1)) (upd vv b1 (v2 c1)) f_3 _ _ hT hU hO (TO_put hS2 hI hno hlt) (by omega) hG ls (lv_sub hl [2, 3, 4, 5, 1, 0] rfl)
            · skip
              have hIa := hI.1
              obtain ⟨a1, rfl⟩ := pI_pos (by omega) c_35
              simp only [pI_succ] at hl
              refine lv_aload_n S.1 S.2.1 dX1_takeOver_38 rfl (lv_at hl 0 rfl) ?_
              refine o_get S hG i_X1 hT.lt0 hT.1 rfl 0 (by decide) kf_9 rfl dX1_takeOver_39 ?_
              refine lv_iload_n S.1 S.2.1 dX1_takeOver_42 rfl (lv_at hl 3 rfl) ?_
              refine o_iald S hG (j := a1) hT.lt1 hT.2.1 (by omega) dX1_takeOver_43 (kk := ?_)
              refine lv_iload S.1 S.2.1 dX1_takeOver_44 (lv_at hl 6 rfl) ?_
              refine lv_icmp_le (tgt := 84) S.1 S.2.1 dX1_takeOver_46 (by decide) (fun c_46 => ?_) (fun c_46 => ?_)
              · skip
                refine lv_aload_n S.1 S.2.1 dX1_takeOver_84 rfl (lv_at hl 0 rfl) ?_
                refine lv_iload_n S.1 S.2.1 dX1_takeOver_85 rfl (lv_at hl 3 rfl) ?_
                refine lv_iload S.1 S.2.1 dX1_takeOver_86 (lv_at hl 6 rfl) ?_
                refine o_cVi S (rest := []) (c_X1_hasAt l G N ad s0 f3 t n kk vv (nI a1) (k2 c1) hT) (cwV 2 S.2.2.2.2 gX1_takeOver_X1_hasAt rfl rfl rfl (by decide +kernel) ⟨(Nat.le_of_ble_eq_true rfl), (Nat.le_of_ble_eq_true rfl)⟩) hG hT.lt0 hT.1 rfl rfl hl.1 rfl (Nat.le_of_ble_eq_true rfl) dX1_takeOver_88 ⟨(Nat.le_of_ble_eq_true rfl), (Nat.le_of_ble_eq_true rfl)⟩ (fun r9 f9 H locs hp hG => ?_)
                obtain ⟨rfl, rfl⟩ := hp
                refine b_if_ne S (b := (ha n kk (nI a1) (k2 c1))) (tgt := 120) dX1_takeOver_91 (by decide) (fun c_91 => ?_) (fun c_91 => ?_)
                · skip
                  refine lv_iinc (v := (pI c1)) (lv' := [(5, .int (pI c1)), (0, .ref (ad t)), (1, .ref (ad o)), (2, .int (nI q)), (3, .int (nI a1)), (4, .int (pI b)), (6, .int (k2 c1))]) S.1 S.2.1 dX1_takeOver_120 hl (k := 5) rfl (pI_inc c1) (by decide) rfl (fun ls hl => ?_)
                  refine lv_goto (tgt := 20) S.1 S.2.1 dX1_takeOver_123 (by decide) ?_
                  rw [← pI_succ a1] at hl
                  exact ih_20 (a1 + 1) b c1 kk vv f3 _ _ hT hU hO (TO_has hI (TO_yes hSk hI c_91 (pI_succ a1).symm hTn)) (by omega) hG ls (lv_sub hl [1, 2, 3, 4, 5, 0] rfl)
                · skip
                  have hlt := TO_lt hSk hI c_46 c_91 hTn
                  have hno := TO_no hSk hI hlt
                  have hIb := hI.2.2.2.1
                  obtain ⟨b1, rfl⟩ : ∃ z, b = z + 1 := ⟨b - 1, by have := hI.2.2.1; rw [cnt_t (by simp [hno])] at this; omega⟩
                  simp only [pI_succ] at hl
                  refine lv_aload_n S.1 S.2.1 dX1_takeOver_94 rfl (lv_at hl 0 rfl) ?_
                  refine o_get S hG i_X1 hT.lt0 hT.1 rfl 0 (by decide) kf_9 rfl dX1_takeOver_95 ?_
                  refine lv_iload S.1 S.2.1 dX1_takeOver_98 (lv_at hl 4 rfl) ?_
                  refine lv_iload S.1 S.2.1 dX1_takeOver_100 (lv_at hl 6 rfl) ?_
                  refine o_iast S hG (j := b1) hT.lt1 hT.2.1 (by omega) dX1_takeOver_102 (kk := fun H locs hG => ?_)
                  obtain ⟨f_4, ef_4, hG⟩ := ov_name hG
                  have hT := hT.upk ef_4
                  have hU := hU.ne ef_4 (by omega) (by omega) (by omega)
                  have hO := hO.up ef_4 (by omega)
                  refine lv_aload_n S.1 S.2.1 dX1_takeOver_103 rfl (lv_at hl 0 rfl) ?_
                  refine o_get S hG i_X1 hT.lt0 hT.1 rfl 1 (by decide) kf_15 rfl dX1_takeOver_104 ?_
                  refine lv_iload S.1 S.2.1 dX1_takeOver_107 (lv_at hl 4 rfl) ?_
                  refine lv_aload_n S.1 S.2.1 dX1_takeOver_109 rfl (lv_at hl 1 rfl) ?_
                  refine o_get S hG i_X1 hU.lt0 hU.1 rfl 1 (by decide) kf_15 rfl dX1_takeOver_110 ?_
                  refine lv_iload S.1 S.2.1 dX1_takeOver_113 (lv_at hl 5 rfl) ?_
                  refine o_iald S hG (j := c1) hU.lt2 hU.2.2.1 (by omega) dX1_takeOver_115 (kk := ?_)
                  refine o_iast S hG (j := b1) hT.lt2 hT.2.2.1 (by omega) dX1_takeOver_116 (kk := fun H locs hG => ?_)
                  obtain ⟨f_5, ef_5, hG⟩ := ov_name hG
                  have hT := hT.upv ef_5
                  have hU := hU.ne ef_5 (by omega) (by omega) (by omega)
                  have hO := hO.up ef_5 (by omega)
                  refine lv_iinc (v := (pI b1)) (lv' := [(4, .int (pI b1)), (0, .ref (ad t)), (1, .ref (ad o)), (2, .int (nI q)), (3, .int (nI a1)), (5, .int (nI c1)), (6, .int (k2 c1))]) S.1 S.2.1 dX1_takeOver_117 hl (k := 4) rfl (pI_inc b1) (by decide) rfl (fun ls hl => ?_)
                  refine lv_iinc (v := (pI c1)) (lv' := [(5, .int (pI c1)), (4, .int (pI b1)), (0, .ref (ad t)), (1, .ref (ad o)), (2, .int (nI q)), (3, .int (nI a1)), (6, .int (k2 c1))]) S.1 S.2.1 dX1_takeOver_120 hl (k := 5) rfl (pI_inc c1) (by decide) rfl (fun ls hl => ?_)
                  refine lv_goto (tgt := 20) S.1 S.2.1 dX1_takeOver_123 (by decide) ?_
                  rw [← pI_succ a1] at hl
                  exact ih_20 (a1 + 1) b1 c1 (upd kk b1 (k2 c1)) (upd vv b1 (v2 c1)) f_5 _ _ hT hU hO (TO_put hS2 hI hno hlt) (by omega) hG ls (lv_sub hl [2, 3, 4, 5, 1, 0] rfl)
              · skip
                have hIa := hI.1
                have hIb := hI.2.2.2.1
                obtain ⟨b1, rfl⟩ : ∃ z, b = z + 1 := ⟨b - 1, by have := hI.2.2.1; omega⟩
                simp only [pI_succ] at hl
                refine lv_aload_n S.1 S.2.1 dX1_takeOver_49 rfl (lv_at hl 0 rfl) ?_
                refine o_get S hG i_X1 hT.lt0 hT.1 rfl 0 (by decide) kf_9 rfl dX1_takeOver_50 ?_
                refine lv_iload S.1 S.2.1 dX1_takeOver_53 (lv_at hl 4 rfl) ?_
                refine lv_aload_n S.1 S.2.1 dX1_takeOver_55 rfl (lv_at hl 0 rfl) ?_
                refine o_get S hG i_X1 hT.lt0 hT.1 rfl 0 (by decide) kf_9 rfl dX1_takeOver_56 ?_
                refine lv_iload_n S.1 S.2.1 dX1_takeOver_59 rfl (lv_at hl 3 rfl) ?_
                refine o_iald S hG (j := a1) hT.lt1 hT.2.1 (by omega) dX1_takeOver_60 (kk := ?_)
                refine o_iast S hG (j := b1) hT.lt1 hT.2.1 (by omega) dX1_takeOver_61 (kk := fun H locs hG => ?_)
                obtain ⟨f_6, ef_6, hG⟩ := ov_name hG
                have hT := hT.upk ef_6
                have hU := hU.ne ef_6 (by omega) (by omega) (by omega)
                have hO := hO.up ef_6 (by omega)
                refine lv_aload_n S.1 S.2.1 dX1_takeOver_62 rfl (lv_at hl 0 rfl) ?_
                refine o_get S hG i_X1 hT.lt0 hT.1 rfl 1 (by decide) kf_15 rfl dX1_takeOver_63 ?_
                refine lv_iload S.1 S.2.1 dX1_takeOver_66 (lv_at hl 4 rfl) ?_
                refine lv_aload_n S.1 S.2.1 dX1_takeOver_68 rfl (lv_at hl 0 rfl) ?_
                refine o_get S hG i_X1 hT.lt0 hT.1 rfl 1 (by decide) kf_15 rfl dX1_takeOver_69 ?_
                refine lv_iload_n S.1 S.2.1 dX1_takeOver_72 rfl (lv_at hl 3 rfl) ?_
                refine o_iald S hG (j := a1) hT.lt2 hT.2.2.1 (by omega) dX1_takeOver_73 (kk := ?_)
                refine o_iast S hG (j := b1) hT.lt2 hT.2.2.1 (by omega) dX1_takeOver_74 (kk := fun H locs hG => ?_)
                obtain ⟨f_7, ef_7, hG⟩ := ov_name hG
                have hT := hT.upv ef_7
                have hU := hU.ne ef_7 (by omega) (by omega) (by omega)
                have hO := hO.up ef_7 (by omega)
                refine lv_iinc (v := (pI a1)) (lv' := [(3, .int (pI a1)), (0, .ref (ad t)), (1, .ref (ad o)), (2, .int (nI q)), (4, .int (nI b1)), (5, .int (nI c1)), (6, .int (k2 c1))]) S.1 S.2.1 dX1_takeOver_75 hl (k := 3) rfl (pI_inc a1) (by decide) rfl (fun ls hl => ?_)
                refine lv_iinc (v := (pI b1)) (lv' := [(4, .int (pI b1)), (3, .int (pI a1)), (0, .ref (ad t)), (1, .ref (ad o)), (2, .int (nI q)), (5, .int (nI c1)), (6, .int (k2 c1))]) S.1 S.2.1 dX1_takeOver_78 hl (k := 4) rfl (pI_inc b1) (by decide) rfl (fun ls hl => ?_)
                refine lv_goto (tgt := 34) S.1 S.2.1 dX1_takeOver_81 (by decide) ?_
                exact ih_34 a1 b1 (upd kk b1 (kk a1)) (upd vv b1 (vv a1)) f_7 _ _ hT hU hO (TO_move hSk hS2 hI (i32_of_nle c_46)) (by omega) hG ls (lv_sub hl [2, 3, 4, 1, 0, 5, 6] rfl)
        exact L_34 _ a b kk vv f2 _ _ hT hU hO hI (Nat.lt_succ_self _) hG ls (lv_sub hl [1, 2, 3, 4, 5, 6, 0] rfl)
  exact L_20 _ n (n + q) n2 k v f _ _ hT hU hO (TO_start hq) (Nat.lt_succ_self _) hG ls (lv_sub hl [3, 4, 5, 2, 1, 0] rfl)

set_option maxHeartbeats 4000000 in
set_option maxRecDepth 100000 in
theorem c_X1_takeOver_self (l : Launch) (G : Gx) (N : Nat) (ad : Nat → Nat) (s0 : Nat) (f : Nat → va_E) (t n : Nat) (k v : Nat → Int32) (hT : TB G N ad f t n k v) (hSk : Srt n k) : mV l yX1_takeOver wsX1_takeOver 2 43 0 0 [.ref (ad t), .ref (ad t), .int (nI 0)] G N ad s0 f (fun f' => TB G N ad f' t n k v ∧ Onl t f f') := by
  refine ov_mV (cc := cX1_takeOver) (maxL := 7) (by decide) rfl (Nat.le_of_ble_eq_true rfl) ?_
  intro p e s m below meth c av Q S ret hG ls hl
  have S : CallFix p m c cX1_takeOver 7 s av wsX1_takeOver RX1 := S
  have hl : lv_has ls 7 [(0, .ref (ad t)), (1, .ref (ad t)), (2, .int (nI 0))] := hl
  have i_X1 : ∀ w ∈ u_ws RX1 TX1 3, w ∈ wsX1_takeOver := by decide +kernel
  have kf_9 := S.2.2.2.2 (.fieldLink RX1 9 "OrderedVersions$Table" "keys" "[I") (by decide +kernel)
  have kf_15 := S.2.2.2.2 (.fieldLink RX1 15 "OrderedVersions$Table" "values" "[I") (by decide +kernel)
  have kf_18 := S.2.2.2.2 (.fieldLink RX1 18 "OrderedVersions$Table" "count" "I") (by decide +kernel)
  have hTn := hT.2.2.2.1
  have hTN := hT.2.2.2.2
  have hO : Onl t f f := Onl.rf
  refine lv_aload_n S.1 S.2.1 dX1_takeOver_0 rfl (lv_at hl 0 rfl) ?_
  refine o_get S hG i_X1 hT.lt0 hT.1 rfl 2 (by decide) kf_18 rfl dX1_takeOver_1 ?_
  refine lv_iconst (v := (nI 1)) S.1 S.2.1 dX1_takeOver_4 (by decide) ?_
  refine lv_isub S.1 S.2.1 dX1_takeOver_5 ?_
  refine o_top (rfl) ?_
  refine lv_istore_n (lv' := [(3, .int (pI n)), (0, .ref (ad t)), (1, .ref (ad t)), (2, .int (nI 0))]) S.1 S.2.1 dX1_takeOver_6 rfl hl (by decide) rfl (fun ls hl => ?_)
  refine lv_iload_n S.1 S.2.1 dX1_takeOver_7 rfl (lv_at hl 0 rfl) ?_
  refine lv_iload_n S.1 S.2.1 dX1_takeOver_8 rfl (lv_at hl 3 rfl) ?_
  refine lv_iadd S.1 S.2.1 dX1_takeOver_9 ?_
  refine o_top (pI_add) ?_
  refine lv_istore (lv' := [(4, .int (pI n)), (3, .int (pI n)), (0, .ref (ad t)), (1, .ref (ad t)), (2, .int (nI 0))]) S.1 S.2.1 dX1_takeOver_10 hl (by decide) rfl (fun ls hl => ?_)
  refine lv_aload_n S.1 S.2.1 dX1_takeOver_12 rfl (lv_at hl 3 rfl) ?_
  refine o_get S hG i_X1 hT.lt0 hT.1 rfl 2 (by decide) kf_18 rfl dX1_takeOver_13 ?_
  refine lv_iconst (v := (nI 1)) S.1 S.2.1 dX1_takeOver_16 (by decide) ?_
  refine lv_isub S.1 S.2.1 dX1_takeOver_17 ?_
  refine o_top (rfl) ?_
  refine lv_istore (lv' := [(5, .int (pI n)), (4, .int (pI n)), (3, .int (pI n)), (0, .ref (ad t)), (1, .ref (ad t)), (2, .int (nI 0))]) S.1 S.2.1 dX1_takeOver_18 hl (by decide) rfl (fun ls hl => ?_)
  have L_20 : ∀ (d9 : Nat) (a : Nat) (c0 : Nat) (f2 : Nat → va_E) (H : Heap) (locs : List Loc), (TB G N ad f2 t n k v) → (Onl t f f2) → (c0 ≤ a ∧ a ≤ n) → c0 < d9 → ov_dy G N ad s0 s f2 H locs → ∀ ls : Array Slot, lv_has ls 7 [(0, .ref (ad t)), (1, .ref (ad t)), (2, .int (nI 0)), (3, .int (pI a)), (4, .int (pI a)), (5, .int (pI c0))] → W p l e (ov_rm 2 43 0 0) s m av below meth c H locs 0 0 Q (F0 m 20 ls []) := by
    intro d9
    induction d9 with
    | zero => intro a c0 f2 H locs hT hO hac h9; exact absurd h9 (Nat.not_lt_zero _)
    | succ d9 ih_20 =>
      intro a c0 f2 H locs hT hO hac h9 hG ls hl
      refine lv_iload S.1 S.2.1 dX1_takeOver_20 (lv_at hl 5 rfl) ?_
      refine lv_if_lt (tgt := 126) S.1 S.2.1 dX1_takeOver_22 (by decide) (fun c_22 => ?_) (fun c_22 => ?_)
      · skip
        refine lv_aload_n S.1 S.2.1 dX1_takeOver_126 rfl (lv_at hl 0 rfl) ?_
        refine lv_dup S.1 S.2.1 dX1_takeOver_127 rfl ?_
        refine o_get S hG i_X1 hT.lt0 hT.1 rfl 2 (by decide) kf_18 rfl dX1_takeOver_128 ?_
        refine lv_iload_n S.1 S.2.1 dX1_takeOver_131 rfl (lv_at hl 2 rfl) ?_
        refine o_add S (a := n) (b := 0) dX1_takeOver_132 ?_
        refine o_put S hG i_X1 tyX1_ok nmX1 hT.lt0 hT.1 rfl 2 (by decide) kf_18 rfl rfl rfl (Nat.le_of_ble_eq_true rfl) dX1_takeOver_133 (fun H locs hG => ?_)
        obtain ⟨f_1, ef_1, hG⟩ := ov_name hG
        have hT := hT.upn ef_1 (n2 := n + 0) (by omega)
        have hO := hO.up ef_1 (by omega)
        exact ret _ _ _ _ _ _ _ hG ⟨hT, hO⟩ (Nat.le_of_ble_eq_true rfl) (Nat.le_of_ble_eq_true rfl) dX1_takeOver_136
      · skip
        obtain ⟨c1, rfl⟩ := pI_pos (by omega) c_22
        simp only [pI_succ] at hl
        refine lv_aload_n S.1 S.2.1 dX1_takeOver_25 rfl (lv_at hl 1 rfl) ?_
        refine o_get S hG i_X1 hT.lt0 hT.1 rfl 0 (by decide) kf_9 rfl dX1_takeOver_26 ?_
        refine lv_iload S.1 S.2.1 dX1_takeOver_29 (lv_at hl 5 rfl) ?_
        refine o_iald S hG (j := c1) hT.lt1 hT.2.1 (by omega) dX1_takeOver_31 (kk := ?_)
        refine lv_istore (lv' := [(6, .int (k c1)), (0, .ref (ad t)), (1, .ref (ad t)), (2, .int (nI 0)), (3, .int (pI a)), (4, .int (pI a)), (5, .int (nI c1))]) S.1 S.2.1 dX1_takeOver_32 hl (by decide) rfl (fun ls hl => ?_)
        have L_34 : ∀ (d9 : Nat) (a : Nat) (f3 : Nat → va_E) (H : Heap) (locs : List Loc), (TB G N ad f3 t n k v) → (Onl t f f3) → (c1 + 1 ≤ a ∧ a ≤ n) → a < d9 → ov_dy G N ad s0 s f3 H locs → ∀ ls : Array Slot, lv_has ls 7 [(0, .ref (ad t)), (1, .ref (ad t)), (2, .int (nI 0)), (3, .int (pI a)), (4, .int (pI a)), (5, .int (nI c1)), (6, .int (k c1))] → W p l e (ov_rm 2 43 0 0) s m av below meth c H locs 0 0 Q (F0 m 34 ls []) := by
          intro d9
          induction d9 with
          | zero => intro a f3 H locs hT hO hac h9; exact absurd h9 (Nat.not_lt_zero _)
          | succ d9 ih_34 =>
            intro a f3 H locs hT hO hac h9 hG ls hl
            refine lv_iload_n S.1 S.2.1 dX1_takeOver_34 rfl (lv_at hl 3 rfl) ?_
            refine lv_if_lt (tgt := 84) S.1 S.2.1 dX1_takeOver_35 (by decide) (fun c_35 => ?_) (fun c_35 => ?_)
            · skip
              exact absurd (pI_neg (by omega) c_35) (by omega)
            · skip
              obtain ⟨a1, rfl⟩ := pI_pos (by omega) c_35
              simp only [pI_succ] at hl
              refine lv_aload_n S.1 S.2.1 dX1_takeOver_38 rfl (lv_at hl 0 rfl) ?_
              refine o_get S hG i_X1 hT.lt0 hT.1 rfl 0 (by decide) kf_9 rfl dX1_takeOver_39 ?_
              refine lv_iload_n S.1 S.2.1 dX1_takeOver_42 rfl (lv_at hl 3 rfl) ?_
              refine o_iald S hG (j := a1) hT.lt1 hT.2.1 (by omega) dX1_takeOver_43 (kk := ?_)
              refine lv_iload S.1 S.2.1 dX1_takeOver_44 (lv_at hl 6 rfl) ?_
              refine lv_icmp_le (tgt := 84) S.1 S.2.1 dX1_takeOver_46 (by decide) (fun c_46 => ?_) (fun c_46 => ?_)
              · skip
                refine lv_aload_n S.1 S.2.1 dX1_takeOver_84 rfl (lv_at hl 0 rfl) ?_
                refine lv_iload_n S.1 S.2.1 dX1_takeOver_85 rfl (lv_at hl 3 rfl) ?_
                refine lv_iload S.1 S.2.1 dX1_takeOver_86 (lv_at hl 6 rfl) ?_
                refine o_cVi S (rest := []) (c_X1_hasAt l G N ad s0 f3 t n k v (nI a1) (k c1) hT) (cwV 2 S.2.2.2.2 gX1_takeOver_X1_hasAt rfl rfl rfl (by decide +kernel) ⟨(Nat.le_of_ble_eq_true rfl), (Nat.le_of_ble_eq_true rfl)⟩) hG hT.lt0 hT.1 rfl rfl hl.1 rfl (Nat.le_of_ble_eq_true rfl) dX1_takeOver_88 ⟨(Nat.le_of_ble_eq_true rfl), (Nat.le_of_ble_eq_true rfl)⟩ (fun r9 f9 H locs hp hG => ?_)
                obtain ⟨rfl, rfl⟩ := hp
                refine b_if_ne S (b := (ha n k (nI a1) (k c1))) (tgt := 120) dX1_takeOver_91 (by decide) (fun c_91 => ?_) (fun c_91 => ?_)
                · skip
                  refine lv_iinc (v := (pI c1)) (lv' := [(5, .int (pI c1)), (0, .ref (ad t)), (1, .ref (ad t)), (2, .int (nI 0)), (3, .int (nI a1)), (4, .int (nI a1)), (6, .int (k c1))]) S.1 S.2.1 dX1_takeOver_120 hl (k := 5) rfl (pI_inc c1) (by decide) rfl (fun ls hl => ?_)
                  refine lv_goto (tgt := 20) S.1 S.2.1 dX1_takeOver_123 (by decide) ?_
                  rw [← pI_succ a1] at hl
                  exact ih_20 (a1 + 1) c1 f3 _ _ hT hO (by omega) (by omega) hG ls (lv_sub hl [1, 2, 3, 4, 5, 0] rfl)
                · skip
                  exact absurd c_91 (by rw [ha_nI (by omega), decide_eq_false_iff_not]; exact fun h => h ⟨by omega, by rw [show a1 = c1 from Classical.byContradiction fun h2 => i32_nlt c_46 (hSk c1 a1 (by omega) (by omega))]⟩)
              · skip
                refine lv_aload_n S.1 S.2.1 dX1_takeOver_49 rfl (lv_at hl 0 rfl) ?_
                refine o_get S hG i_X1 hT.lt0 hT.1 rfl 0 (by decide) kf_9 rfl dX1_takeOver_50 ?_
                refine lv_iload S.1 S.2.1 dX1_takeOver_53 (lv_at hl 4 rfl) ?_
                refine lv_aload_n S.1 S.2.1 dX1_takeOver_55 rfl (lv_at hl 0 rfl) ?_
                refine o_get S hG i_X1 hT.lt0 hT.1 rfl 0 (by decide) kf_9 rfl dX1_takeOver_56 ?_
                refine lv_iload_n S.1 S.2.1 dX1_takeOver_59 rfl (lv_at hl 3 rfl) ?_
                refine o_iald S hG (j := a1) hT.lt1 hT.2.1 (by omega) dX1_takeOver_60 (kk := ?_)
                refine o_iast S hG (j := a1) hT.lt1 hT.2.1 (by omega) dX1_takeOver_61 (kk := fun H locs hG => ?_)
                obtain ⟨f_2, ef_2, hG⟩ := ov_name hG
                have hT := hT.upk ef_2
                have hO := hO.up ef_2 (by omega)
                rw [upd_same] at hT
                refine lv_aload_n S.1 S.2.1 dX1_takeOver_62 rfl (lv_at hl 0 rfl) ?_
                refine o_get S hG i_X1 hT.lt0 hT.1 rfl 1 (by decide) kf_15 rfl dX1_takeOver_63 ?_
                refine lv_iload S.1 S.2.1 dX1_takeOver_66 (lv_at hl 4 rfl) ?_
                refine lv_aload_n S.1 S.2.1 dX1_takeOver_68 rfl (lv_at hl 0 rfl) ?_
                refine o_get S hG i_X1 hT.lt0 hT.1 rfl 1 (by decide) kf_15 rfl dX1_takeOver_69 ?_
                refine lv_iload_n S.1 S.2.1 dX1_takeOver_72 rfl (lv_at hl 3 rfl) ?_
                refine o_iald S hG (j := a1) hT.lt2 hT.2.2.1 (by omega) dX1_takeOver_73 (kk := ?_)
                refine o_iast S hG (j := a1) hT.lt2 hT.2.2.1 (by omega) dX1_takeOver_74 (kk := fun H locs hG => ?_)
                obtain ⟨f_3, ef_3, hG⟩ := ov_name hG
                have hT := hT.upv ef_3
                have hO := hO.up ef_3 (by omega)
                rw [upd_same] at hT
                refine lv_iinc (v := (pI a1)) (lv' := [(3, .int (pI a1)), (0, .ref (ad t)), (1, .ref (ad t)), (2, .int (nI 0)), (4, .int (nI a1)), (5, .int (nI c1)), (6, .int (k c1))]) S.1 S.2.1 dX1_takeOver_75 hl (k := 3) rfl (pI_inc a1) (by decide) rfl (fun ls hl => ?_)
                refine lv_iinc (v := (pI a1)) (lv' := [(4, .int (pI a1)), (3, .int (pI a1)), (0, .ref (ad t)), (1, .ref (ad t)), (2, .int (nI 0)), (5, .int (nI c1)), (6, .int (k c1))]) S.1 S.2.1 dX1_takeOver_78 hl (k := 4) rfl (pI_inc a1) (by decide) rfl (fun ls hl => ?_)
                refine lv_goto (tgt := 34) S.1 S.2.1 dX1_takeOver_81 (by decide) ?_
                exact ih_34 a1 f_3 _ _ hT hO (⟨srt_gt hSk c_46 (by omega) (by omega), by omega⟩) (by omega) hG ls (lv_sub hl [2, 3, 4, 1, 0, 5, 6] rfl)
        exact L_34 _ a f2 _ _ hT hO hac (Nat.lt_succ_self _) hG ls (lv_sub hl [1, 2, 3, 4, 5, 6, 0] rfl)
  exact L_20 _ n n f _ _ hT hO (⟨Nat.le_refl _, Nat.le_refl _⟩) (Nat.lt_succ_self _) hG ls (lv_sub hl [3, 4, 5, 2, 1, 0] rfl)

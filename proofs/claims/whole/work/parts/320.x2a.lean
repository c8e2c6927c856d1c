set_option maxHeartbeats 4000000 in
set_option maxRecDepth 100000 in
theorem c_X2_isTaken (l : Launch) (G : Gx) (ad : Nat → Nat) (s0 : Nat) (f : Nat → va_E) (a nn : Nat) (g9 : Nat → Int32) (b9 : Nat → Bool) (v : Int32) (ha9 : a < 84) (hg9 : f a = eZ G nn g9) (hn9 : nn < 2 ^ 31) (hb9 : ∀ j, j < nn → g9 j = bI (b9 j))  : mI l yX2_isTaken wsX2_isTaken 0 0 0 0 [.ref (ad a), .int v] G 84 ad s0 f (fun r f' => f = f' ∧ r = bI (itk nn b9 v)) := by
  refine ov_mI (cc := cX2_isTaken) (maxL := 2) (ty := .boolean) (by decide) rfl (Nat.le_of_ble_eq_true rfl) ?_
  intro p e s m below meth c av Q S ret hG ls hl
  have S : CallFix p m c cX2_isTaken 2 s av wsX2_isTaken RX2 := S
  have hl : lv_has ls 2 [(0, .ref (ad a)), (1, .int v)] := hl
  refine lv_iload_n S.1 S.2.1 dX2_isTaken_0 rfl (lv_at hl 1 rfl) ?_
  refine lv_if_lt (tgt := 20) S.1 S.2.1 dX2_isTaken_1 (by decide) (fun c_1 => ?_) (fun c_1 => ?_)
  · skip
    refine lv_iconst (v := (nI 0)) S.1 S.2.1 dX2_isTaken_20 (by decide) ?_
    exact ret _ _ _ _ _ _ _ _ hG ⟨rfl, bI_f (itk_f1 c_1)⟩ rfl (Nat.le_of_ble_eq_true rfl) (Nat.le_of_ble_eq_true rfl) dX2_isTaken_21
  · skip
    refine lv_iload_n S.1 S.2.1 dX2_isTaken_4 rfl (lv_at hl 1 rfl) ?_
    refine lv_aload_n S.1 S.2.1 dX2_isTaken_5 rfl (lv_at hl 0 rfl) ?_
    refine o_alen S hG 1 ha9 hg9 rfl dX2_isTaken_6 ?_
    refine lv_icmp_ge (tgt := 20) S.1 S.2.1 dX2_isTaken_7 (by decide) (fun c_7 => ?_) (fun c_7 => ?_)
    · skip
      refine lv_iconst (v := (nI 0)) S.1 S.2.1 dX2_isTaken_20 (by decide) ?_
      exact ret _ _ _ _ _ _ _ _ hG ⟨rfl, bI_f (itk_f2 hn9 c_7)⟩ rfl (Nat.le_of_ble_eq_true rfl) (Nat.le_of_ble_eq_true rfl) dX2_isTaken_21
    · skip
      obtain ⟨j, hj, rfl⟩ := v_ex2 hn9 c_1 c_7
      refine lv_aload_n S.1 S.2.1 dX2_isTaken_10 rfl (lv_at hl 0 rfl) ?_
      refine lv_iload_n S.1 S.2.1 dX2_isTaken_11 rfl (lv_at hl 1 rfl) ?_
      refine o_zald S hG (j := j) ha9 hg9 (by omega) dX2_isTaken_12 (hn := hn9) (kk := ?_)
      refine o_top (hb9 j hj) ?_
      refine b_if_eq S (b := (b9 j)) (tgt := 20) dX2_isTaken_13 (by decide) (fun c_13 => ?_) (fun c_13 => ?_)
      · skip
        refine lv_iconst (v := (nI 0)) S.1 S.2.1 dX2_isTaken_20 (by decide) ?_
        exact ret _ _ _ _ _ _ _ _ hG ⟨rfl, bI_f (by rw [itk_nI hj hn9]; exact c_13)⟩ rfl (Nat.le_of_ble_eq_true rfl) (Nat.le_of_ble_eq_true rfl) dX2_isTaken_21
      · skip
        refine lv_iconst (v := (nI 1)) S.1 S.2.1 dX2_isTaken_16 (by decide) ?_
        refine lv_goto (tgt := 21) S.1 S.2.1 dX2_isTaken_17 (by decide) ?_
        exact ret _ _ _ _ _ _ _ _ hG ⟨rfl, bI_t (by rw [itk_nI hj hn9]; exact c_13)⟩ rfl (Nat.le_of_ble_eq_true rfl) (Nat.le_of_ble_eq_true rfl) dX2_isTaken_21

set_option maxHeartbeats 4000000 in
set_option maxRecDepth 100000 in
theorem c_X2_leastFree (l : Launch) (G : Gx) (ad : Nat → Nat) (s0 : Nat) (f : Nat → va_E) (a nn : Nat) (g9 : Nat → Int32) (b9 : Nat → Bool) (w : Nat) (ha9 : a < 84) (hg9 : f a = eZ G nn g9) (hn9 : nn < 2 ^ 31) (hb9 : ∀ j, j < nn → g9 j = bI (b9 j)) (hw : w ≤ nn) : mI l yX2_leastFree wsX2_leastFree 0 0 0 0 [.ref (ad a), .int (nI w)] G 84 ad s0 f (fun r f' => f = f' ∧ ∃ i, r = nI i ∧ w ≤ i ∧ i ≤ nn ∧ (∀ z, w ≤ z → z < i → b9 z = true) ∧ (i < nn → b9 i = false)) := by
  refine ov_mI (cc := cX2_leastFree) (maxL := 3) (ty := .int) (by decide) rfl (Nat.le_of_ble_eq_true rfl) ?_
  intro p e s m below meth c av Q S ret hG ls hl
  have S : CallFix p m c cX2_leastFree 3 s av wsX2_leastFree RX2 := S
  have hl : lv_has ls 3 [(0, .ref (ad a)), (1, .int (nI w))] := hl
  refine lv_iload_n S.1 S.2.1 dX2_leastFree_0 rfl (lv_at hl 1 rfl) ?_
  refine lv_istore_n (lv' := [(2, .int (nI w)), (0, .ref (ad a)), (1, .int (nI w))]) S.1 S.2.1 dX2_leastFree_1 rfl hl (by decide) rfl (fun ls hl => ?_)
  have L_2 : ∀ (d9 : Nat) (i : Nat) (H : Heap) (locs : List Loc), (w ≤ i ∧ i ≤ nn) → (∀ z, w ≤ z → z < i → b9 z = true) → (nn - i) < d9 → ov_dy G 84 ad s0 s f H locs → ∀ ls : Array Slot, lv_has ls 3 [(0, .ref (ad a)), (1, .int (nI w)), (2, .int (nI i))] → W p l e (ov_rm 0 0 0 0) s m av below meth c H locs 0 0 Q (F0 m 2 ls []) := by
    intro d9
    induction d9 with
    | zero => intro i H locs hi hlo h9; exact absurd h9 (Nat.not_lt_zero _)
    | succ d9 ih_2 =>
      intro i H locs hi hlo h9 hG ls hl
      refine lv_iload_n S.1 S.2.1 dX2_leastFree_2 rfl (lv_at hl 2 rfl) ?_
      refine lv_aload_n S.1 S.2.1 dX2_leastFree_3 rfl (lv_at hl 0 rfl) ?_
      refine o_alen S hG 1 ha9 hg9 rfl dX2_leastFree_4 ?_
      refine n_ge S (a := i) (b := nn) (tgt := 22) dX2_leastFree_5 (by decide) (by omega) (by omega) (fun c_5 => ?_) (fun c_5 => ?_)
      · skip
        refine lv_aload_n S.1 S.2.1 dX2_leastFree_22 rfl (lv_at hl 0 rfl) ?_
        refine o_alen S hG 1 ha9 hg9 rfl dX2_leastFree_23 ?_
        exact ret _ _ _ _ _ _ _ _ hG ⟨rfl, nn, rfl, hw, Nat.le_refl _, fun z h1 h2 => hlo z h1 (by omega), fun h => absurd h (Nat.lt_irrefl _)⟩ rfl (Nat.le_of_ble_eq_true rfl) (Nat.le_of_ble_eq_true rfl) dX2_leastFree_24
      · skip
        refine lv_aload_n S.1 S.2.1 dX2_leastFree_8 rfl (lv_at hl 0 rfl) ?_
        refine lv_iload_n S.1 S.2.1 dX2_leastFree_9 rfl (lv_at hl 2 rfl) ?_
        refine o_zald S hG (j := i) ha9 hg9 (by omega) dX2_leastFree_10 (hn := hn9) (kk := ?_)
        refine o_top (hb9 i c_5) ?_
        refine b_if_ne S (b := (b9 i)) (tgt := 16) dX2_leastFree_11 (by decide) (fun c_11 => ?_) (fun c_11 => ?_)
        · skip
          refine lv_iinc (v := (nI (i + 1))) (lv' := [(2, .int (nI (i + 1))), (0, .ref (ad a)), (1, .int (nI w))]) S.1 S.2.1 dX2_leastFree_16 hl (k := 2) rfl (nI_add i 1) (by decide) rfl (fun ls hl => ?_)
          refine lv_goto (tgt := 2) S.1 S.2.1 dX2_leastFree_19 (by decide) ?_
          exact ih_2 (i + 1) _ _ (by omega) (fun z h1 h2 => (Nat.lt_or_eq_of_le (Nat.le_of_lt_succ h2)).elim (hlo z h1) (fun e => by rw [e]; exact c_11)) (by omega) hG ls (lv_sub hl [1, 2, 0] rfl)
        · skip
          refine lv_iload_n S.1 S.2.1 dX2_leastFree_14 rfl (lv_at hl 2 rfl) ?_
          exact ret _ _ _ _ _ _ _ _ hG ⟨rfl, i, rfl, hi.1, hi.2, hlo, fun _ => c_11⟩ rfl (Nat.le_of_ble_eq_true rfl) (Nat.le_of_ble_eq_true rfl) dX2_leastFree_15
  exact L_2 _ w _ _ (⟨Nat.le_refl _, hw⟩) (fun z h1 h2 => absurd h1 (by omega)) (Nat.lt_succ_self _) hG ls (lv_sub hl [1, 2, 0] rfl)

set_option maxHeartbeats 4000000 in
set_option maxRecDepth 100000 in
theorem c_X2_countTaken (l : Launch) (G : Gx) (ad : Nat → Nat) (s0 : Nat) (f : Nat → va_E) (a nn : Nat) (g9 : Nat → Int32) (b9 : Nat → Bool) (w : Nat) (ha9 : a < 84) (hg9 : f a = eZ G nn g9) (hn9 : nn < 2 ^ 31) (hb9 : ∀ j, j < nn → g9 j = bI (b9 j)) (hw : w ≤ nn) : mI l yX2_countTaken wsX2_countTaken 0 0 0 0 [.ref (ad a), .int (nI w)] G 84 ad s0 f (fun r f' => f = f' ∧ r = nI (cnt (nn - w) (fun z => b9 (w + z)))) := by
  refine ov_mI (cc := cX2_countTaken) (maxL := 4) (ty := .int) (by decide) rfl (Nat.le_of_ble_eq_true rfl) ?_
  intro p e s m below meth c av Q S ret hG ls hl
  have S : CallFix p m c cX2_countTaken 4 s av wsX2_countTaken RX2 := S
  have hl : lv_has ls 4 [(0, .ref (ad a)), (1, .int (nI w))] := hl
  refine lv_iconst (v := (nI 0)) S.1 S.2.1 dX2_countTaken_0 (by decide) ?_
  refine lv_istore_n (lv' := [(2, .int (nI 0)), (0, .ref (ad a)), (1, .int (nI w))]) S.1 S.2.1 dX2_countTaken_1 rfl hl (by decide) rfl (fun ls hl => ?_)
  refine lv_iload_n S.1 S.2.1 dX2_countTaken_2 rfl (lv_at hl 2 rfl) ?_
  refine lv_istore_n (lv' := [(3, .int (nI w)), (2, .int (nI 0)), (0, .ref (ad a)), (1, .int (nI w))]) S.1 S.2.1 dX2_countTaken_3 rfl hl (by decide) rfl (fun ls hl => ?_)
  have L_4 : ∀ (d9 : Nat) (c0 : Nat) (i : Nat) (H : Heap) (locs : List Loc), (w + i ≤ nn) → (c0 = cnt i (fun z => b9 (w + z))) → (nn - (w + i)) < d9 → ov_dy G 84 ad s0 s f H locs → ∀ ls : Array Slot, lv_has ls 4 [(0, .ref (ad a)), (1, .int (nI w)), (2, .int (nI c0)), (3, .int (nI (w + i)))] → W p l e (ov_rm 0 0 0 0) s m av below meth c H locs 0 0 Q (F0 m 4 ls []) := by
    intro d9
    induction d9 with
    | zero => intro c0 i H locs hi hc h9; exact absurd h9 (Nat.not_lt_zero _)
    | succ d9 ih_4 =>
      intro c0 i H locs hi hc h9 hG ls hl
      refine lv_iload_n S.1 S.2.1 dX2_countTaken_4 rfl (lv_at hl 3 rfl) ?_
      refine lv_aload_n S.1 S.2.1 dX2_countTaken_5 rfl (lv_at hl 0 rfl) ?_
      refine o_alen S hG 1 ha9 hg9 rfl dX2_countTaken_6 ?_
      refine n_ge S (a := w + i) (b := nn) (tgt := 25) dX2_countTaken_7 (by decide) (by omega) (by omega) (fun c_7 => ?_) (fun c_7 => ?_)
      · skip
        refine lv_iload_n S.1 S.2.1 dX2_countTaken_25 rfl (lv_at hl 2 rfl) ?_
        exact ret _ _ _ _ _ _ _ _ hG ⟨rfl, by rw [hc, show i = nn - w by omega]⟩ rfl (Nat.le_of_ble_eq_true rfl) (Nat.le_of_ble_eq_true rfl) dX2_countTaken_26
      · skip
        refine lv_aload_n S.1 S.2.1 dX2_countTaken_10 rfl (lv_at hl 0 rfl) ?_
        refine lv_iload_n S.1 S.2.1 dX2_countTaken_11 rfl (lv_at hl 3 rfl) ?_
        refine o_zald S hG (j := w + i) ha9 hg9 (by omega) dX2_countTaken_12 (hn := hn9) (kk := ?_)
        refine o_top (hb9 (w + i) c_7) ?_
        refine b_if_eq S (b := (b9 (w + i))) (tgt := 19) dX2_countTaken_13 (by decide) (fun c_13 => ?_) (fun c_13 => ?_)
        · skip
          refine lv_iinc (v := (nI (w + i + 1))) (lv' := [(3, .int (nI (w + i + 1))), (0, .ref (ad a)), (1, .int (nI w)), (2, .int (nI c0))]) S.1 S.2.1 dX2_countTaken_19 hl (k := 3) rfl (nI_add (w + i) 1) (by decide) rfl (fun ls hl => ?_)
          refine lv_goto (tgt := 4) S.1 S.2.1 dX2_countTaken_22 (by decide) ?_
          exact ih_4 c0 (i + 1) _ _ (by omega) (by rw [hc]; exact (cnt_f (n := i) (p := (fun z => b9 (w + z))) c_13).symm) (by omega) hG ls (lv_sub hl [1, 2, 3, 0] rfl)
        · skip
          refine lv_iinc (v := (nI (c0 + 1))) (lv' := [(2, .int (nI (c0 + 1))), (0, .ref (ad a)), (1, .int (nI w)), (3, .int (nI (w + i)))]) S.1 S.2.1 dX2_countTaken_16 hl (k := 2) rfl (nI_add c0 1) (by decide) rfl (fun ls hl => ?_)
          refine lv_iinc (v := (nI (w + i + 1))) (lv' := [(3, .int (nI (w + i + 1))), (2, .int (nI (c0 + 1))), (0, .ref (ad a)), (1, .int (nI w))]) S.1 S.2.1 dX2_countTaken_19 hl (k := 3) rfl (nI_add (w + i) 1) (by decide) rfl (fun ls hl => ?_)
          refine lv_goto (tgt := 4) S.1 S.2.1 dX2_countTaken_22 (by decide) ?_
          exact ih_4 (c0 + 1) (i + 1) _ _ (by omega) (by rw [hc]; exact (cnt_t (n := i) (p := (fun z => b9 (w + z))) c_13).symm) (by omega) hG ls (lv_sub hl [2, 3, 1, 0] rfl)
  exact L_4 _ 0 0 _ _ hw rfl (Nat.lt_succ_self _) hG ls (lv_sub hl [2, 3, 1, 0] rfl)

set_option maxHeartbeats 4000000 in
set_option maxRecDepth 100000 in
theorem c_X2_keyAt (l : Launch) (hst : l.stackTraces = false) (G : Gx) (ad : Nat → Nat) (s0 : Nat) (f : Nat → va_E) (t n : Nat) (k v : Nat → Int32) (ix : Int32) (hT : TB G 84 ad f t n k v) : xI l yX2_keyAt wsX2_keyAt 6 110 1 6 [.ref (ad t), .int ix] G 84 ad s0 f (fun E => E = xNS ∧ wi n ix = false) (fun r f' => f = f' ∧ ∃ j, j < n ∧ ix = nI j ∧ r = k j) := by
  refine ov_xI (cc := cX2_keyAt) (maxL := 2) (ty := .int) hst (by decide) rfl (Nat.le_of_ble_eq_true rfl) ?_
  intro p e s m below meth c av Q S ret thx tht hG ls hl
  have S : CallFix p m c cX2_keyAt 2 s av wsX2_keyAt RX2 := S
  have hl : lv_has ls 2 [(0, .ref (ad t)), (1, .int ix)] := hl
  have i_X1 : ∀ w ∈ u_ws RX1 TX1 3, w ∈ wsX2_keyAt := by decide +kernel
  have kf_122 := S.2.2.2.2 (.fieldLink RX2 122 "OrderedVersions$Table" "keys" "[I") (by decide +kernel)
  have hTn := hT.2.2.2.1
  have hTN := hT.2.2.2.2
  refine lv_aload_n S.1 S.2.1 dX2_keyAt_0 rfl (lv_at hl 0 rfl) ?_
  refine lv_iload_n S.1 S.2.1 dX2_keyAt_1 rfl (lv_at hl 1 rfl) ?_
  refine o_cVi S (rest := []) (c_X1_isWithin l G 84 ad s0 f t n k v ix hT) (cwV 1 S.2.2.2.2 gX2_keyAt_X1_isWithin rfl rfl rfl (by decide +kernel) ⟨(Nat.le_of_ble_eq_true rfl), (Nat.le_of_ble_eq_true rfl)⟩) hG hT.lt0 hT.1 rfl rfl hl.1 rfl (Nat.le_of_ble_eq_true rfl) dX2_keyAt_2 ⟨(Nat.le_of_ble_eq_true rfl), (Nat.le_of_ble_eq_true rfl)⟩ (fun r9 f9 H locs hp hG => ?_)
  obtain ⟨rfl, rfl⟩ := hp
  refine b_if_ne S (b := (wi n ix)) (tgt := 16) dX2_keyAt_5 (by decide) (fun c_5 => ?_) (fun c_5 => ?_)
  · skip
    obtain ⟨j, hj, rfl⟩ := wi_ex hTn c_5
    refine lv_aload_n S.1 S.2.1 dX2_keyAt_16 rfl (lv_at hl 0 rfl) ?_
    refine o_get S hG i_X1 hT.lt0 hT.1 rfl 0 (by decide) kf_122 rfl dX2_keyAt_17 ?_
    refine lv_iload_n S.1 S.2.1 dX2_keyAt_20 rfl (lv_at hl 1 rfl) ?_
    refine o_iald S hG (j := j) hT.lt1 hT.2.1 (by omega) dX2_keyAt_21 (kk := ?_)
    exact ret _ _ _ _ _ _ _ _ hG ⟨rfl, j, hj, rfl, rfl⟩ rfl (Nat.le_of_ble_eq_true rfl) (Nat.le_of_ble_eq_true rfl) dX2_keyAt_22
  · skip
    exact tht "java/util/NoSuchElementException" ["java/lang/RuntimeException", "java/lang/Exception"] 57 59 _ _ _ _ _ _ _ hG (⟨rfl, c_5⟩) (by decide) (by decide) (S.2.2.2.2 (.classLink RX2 57 "java/util/NoSuchElementException") (by decide +kernel)) (S.2.2.2.2 (.initialized "java/util/NoSuchElementException") (by decide +kernel)) (vx_hat (fun w h => S.2.2.2.2 w ((by decide +kernel : ∀ w ∈ (vx_at0 RX2 59 "java/util/NoSuchElementException" ["java/lang/RuntimeException", "java/lang/Exception"]).filter goodWord, w ∈ wsX2_keyAt) w h)) (by decide +kernel : ∀ w ∈ (vx_at0 RX2 59 "java/util/NoSuchElementException" ["java/lang/RuntimeException", "java/lang/Exception"]).filter (fun w => !goodWord w), w ∈ ov_NG) hG.2.2.2.2.1.2.2.use) (by decide +kernel) (hl.1.trans S.2.2.1.symm) dX2_keyAt_8 dX2_keyAt_11 dX2_keyAt_12 dX2_keyAt_15 (Nat.le_of_ble_eq_true rfl) (Nat.le_of_ble_eq_true rfl) (Nat.le_of_ble_eq_true rfl) (Nat.le_of_ble_eq_true rfl) (Nat.le_of_ble_eq_true rfl) (Nat.le_of_ble_eq_true rfl)

set_option maxHeartbeats 4000000 in
set_option maxRecDepth 100000 in
theorem c_X2_mapOf (l : Launch) (hst : l.stackTraces = false) (G : Gx) (ad : Nat → Nat) (s0 : Nat) (f : Nat → va_E) (th : Nat → Bool) (cx : Nat → Nat) (kx vx : Nat → Nat → Int32) (px : Nat → Int) (dx : Nat → Bool) (v : Int32) (hX : RX G ad f th cx kx vx px dx) (hS : ∀ j, j < 21 → Srt (cx j) (kx j))  : xR l yX2_mapOf wsX2_mapOf 6 110 1 6 [.ref (ad 0), .int v] G 84 ad s0 f (fun E => E = xIO ∧ isv th v = false) (fun r f' => f = f' ∧ ∃ j, j ≤ 12 ∧ v = nI j ∧ th j = true ∧ r = tc j) := by
  refine ov_xR (cc := cX2_mapOf) (maxL := 2) hst (by decide) rfl (Nat.le_of_ble_eq_true rfl) ?_
  intro p e s m below meth c av Q S ret thx tht hG ls hl
  have S : CallFix p m c cX2_mapOf 2 s av wsX2_mapOf RX2 := S
  have hl : lv_has ls 2 [(0, .ref (ad 0)), (1, .int v)] := hl
  have i_X2 : ∀ w ∈ u_ws RX2 TX2 5, w ∈ wsX2_mapOf := by decide +kernel
  have kf_16 := S.2.2.2.2 (.fieldLink RX2 16 "OrderedVersions" "versions" "[LOrderedVersions$Table;") (by decide +kernel)
  have kf_20 := S.2.2.2.2 (.fieldLink RX2 20 "OrderedVersions" "versionTaken" "[Z") (by decide +kernel)
  obtain ⟨hX0, ⟨g4, hX4, hg4⟩, ⟨g5, hX5, hg5⟩, ⟨g42, hX42, hg42⟩, ⟨g43, hX43, hg43⟩, hXT, hXC⟩ := id hX
  have hT0 : TB G 84 ad f 1 (cx 0) (kx 0) (vx 0) := hXT 0 (by decide)
  have hT0n := hT0.2.2.2.1
  have hS0 := hS 0 (by decide)
  refine lv_aload_n S.1 S.2.1 dX2_mapOf_0 rfl (lv_at hl 0 rfl) ?_
  refine o_get S hG i_X2 (by decide) hX0 rfl 2 (by decide) kf_20 rfl dX2_mapOf_1 ?_
  refine lv_iload_n S.1 S.2.1 dX2_mapOf_4 rfl (lv_at hl 1 rfl) ?_
  refine o_cSi S (rest := []) (c_X2_isTaken l G ad s0 f 5 13 g5 th v (by decide) hX5 (by decide) hg5) (va_cwS 2 S.2.2.2.2 gX2_mapOf_X2_isTaken rfl rfl rfl (by decide +kernel) ⟨(Nat.le_of_ble_eq_true rfl), (Nat.le_of_ble_eq_true rfl)⟩) hG rfl hl.1 rfl (Nat.le_of_ble_eq_true rfl) dX2_mapOf_5 ⟨(Nat.le_of_ble_eq_true rfl), (Nat.le_of_ble_eq_true rfl)⟩ (fun r9 f9 H locs hp hG => ?_)
  obtain ⟨rfl, rfl⟩ := hp
  refine b_if_ne S (b := (itk 13 th v)) (tgt := 19) dX2_mapOf_8 (by decide) (fun c_8 => ?_) (fun c_8 => ?_)
  · skip
    rw [itk_isv] at c_8
    obtain ⟨j, hj2, rfl, hj3⟩ := isv_ex c_8
    refine lv_aload_n S.1 S.2.1 dX2_mapOf_19 rfl (lv_at hl 0 rfl) ?_
    refine o_get S hG i_X2 (by decide) hX0 rfl 1 (by decide) kf_16 rfl dX2_mapOf_20 ?_
    refine lv_iload_n S.1 S.2.1 dX2_mapOf_23 rfl (lv_at hl 1 rfl) ?_
    refine o_Tald S hG (j := j) (by decide) hX4 (by omega) (hg4 j (by omega)) dX2_mapOf_24 (kk := ?_)
    exact ret _ _ _ _ _ _ _ _ hG ⟨rfl, j, hj2, rfl, hj3, rfl⟩ (Nat.le_of_ble_eq_true rfl) (Nat.le_of_ble_eq_true rfl) dX2_mapOf_25
  · skip
    exact tht "java/lang/IndexOutOfBoundsException" ["java/lang/RuntimeException", "java/lang/Exception"] 166 168 _ _ _ _ _ _ _ hG (⟨rfl, by rw [← itk_isv]; exact c_8⟩) (by decide) (by decide) (S.2.2.2.2 (.classLink RX2 166 "java/lang/IndexOutOfBoundsException") (by decide +kernel)) (S.2.2.2.2 (.initialized "java/lang/IndexOutOfBoundsException") (by decide +kernel)) (vx_hat (fun w h => S.2.2.2.2 w ((by decide +kernel : ∀ w ∈ (vx_at0 RX2 168 "java/lang/IndexOutOfBoundsException" ["java/lang/RuntimeException", "java/lang/Exception"]).filter goodWord, w ∈ wsX2_mapOf) w h)) (by decide +kernel : ∀ w ∈ (vx_at0 RX2 168 "java/lang/IndexOutOfBoundsException" ["java/lang/RuntimeException", "java/lang/Exception"]).filter (fun w => !goodWord w), w ∈ ov_NG) hG.2.2.2.2.1.2.2.use) (by decide +kernel) (hl.1.trans S.2.2.1.symm) dX2_mapOf_11 dX2_mapOf_14 dX2_mapOf_15 dX2_mapOf_18 (Nat.le_of_ble_eq_true rfl) (Nat.le_of_ble_eq_true rfl) (Nat.le_of_ble_eq_true rfl) (Nat.le_of_ble_eq_true rfl) (Nat.le_of_ble_eq_true rfl) (Nat.le_of_ble_eq_true rfl)

theorem so_f {v : Int32} (h : nI 1 ≤ v) : ¬ v ≤ 0 := by
  rw [i32_le, nI_toInt (by decide)] at h
  rw [i32_le, Int32.toInt_zero]; omega
theorem so_t {v : Int32} (h : ¬ nI 1 ≤ v) : v ≤ 0 := by
  rw [i32_le, nI_toInt (by decide)] at h
  rw [i32_le, Int32.toInt_zero]; omega
theorem so_j {j : Nat} (h : nI 1 ≤ nI j) (hj : j ≤ 12) : 1 ≤ j := (nI_leI (by decide) (by omega)).mp h

set_option maxHeartbeats 4000000 in
set_option maxRecDepth 100000 in
theorem c_X2_snapshotOf (l : Launch) (hst : l.stackTraces = false) (G : Gx) (ad : Nat → Nat) (s0 : Nat) (f : Nat → va_E) (th : Nat → Bool) (cx : Nat → Nat) (kx vx : Nat → Nat → Int32) (px : Nat → Int) (dx : Nat → Bool) (v : Int32) (hX : RX G ad f th cx kx vx px dx) (hS : ∀ j, j < 21 → Srt (cx j) (kx j))  : xR l yX2_snapshotOf wsX2_snapshotOf 7 131 2 12 [.ref (ad 0), .int v] G 84 ad s0 f (fun E => E = xIO ∧ iss th v = false) (fun r f' => f = f' ∧ ∃ j, 1 ≤ j ∧ j ≤ 12 ∧ v = nI j ∧ th j = true ∧ r = tc j) := by
  refine ov_xR (cc := cX2_snapshotOf) (maxL := 2) hst (by decide) rfl (Nat.le_of_ble_eq_true rfl) ?_
  intro p e s m below meth c av Q S ret thx tht hG ls hl
  have S : CallFix p m c cX2_snapshotOf 2 s av wsX2_snapshotOf RX2 := S
  have hl : lv_has ls 2 [(0, .ref (ad 0)), (1, .int v)] := hl
  obtain ⟨hX0, ⟨g4, hX4, hg4⟩, ⟨g5, hX5, hg5⟩, ⟨g42, hX42, hg42⟩, ⟨g43, hX43, hg43⟩, hXT, hXC⟩ := id hX
  have hT0 : TB G 84 ad f 1 (cx 0) (kx 0) (vx 0) := hXT 0 (by decide)
  have hT0n := hT0.2.2.2.1
  have hS0 := hS 0 (by decide)
  refine lv_iload_n S.1 S.2.1 dX2_snapshotOf_0 rfl (lv_at hl 1 rfl) ?_
  refine lv_iconst (v := (nI 1)) S.1 S.2.1 dX2_snapshotOf_1 (by decide) ?_
  refine lv_icmp_ge (tgt := 13) S.1 S.2.1 dX2_snapshotOf_2 (by decide) (fun c_2 => ?_) (fun c_2 => ?_)
  · skip
    refine lv_aload_n S.1 S.2.1 dX2_snapshotOf_13 rfl (lv_at hl 0 rfl) ?_
    refine lv_iload_n S.1 S.2.1 dX2_snapshotOf_14 rfl (lv_at hl 1 rfl) ?_
    refine o_xVr S (rest := []) (c_X2_mapOf l hst G ad s0 f th cx kx vx px dx v hX hS ) (cwV 1 S.2.2.2.2 gX2_snapshotOf_X2_mapOf rfl rfl rfl (by decide +kernel) ⟨(Nat.le_of_ble_eq_true rfl), (Nat.le_of_ble_eq_true rfl)⟩) hG (by decide) hX0 rfl rfl hl.1 rfl (Nat.le_of_ble_eq_true rfl) dX2_snapshotOf_15 ⟨(Nat.le_of_ble_eq_true rfl), (Nat.le_of_ble_eq_true rfl)⟩ (fun E ce q9 H locs hE hG h1 h2 h3 => thx E ce q9 _ _ _ _ _ _ _ hG (⟨hE.1, by rw [iss_isv (so_f c_2)]; exact hE.2⟩) h1 h2 h3 (Nat.le_of_ble_eq_true rfl) (Nat.le_of_ble_eq_true rfl)) (fun r9 f9 H locs hp hG => ?_)
    obtain ⟨rfl, j, hj2, rfl, hj3, rfl⟩ := hp
    have hTj := hXT j (by omega)
    have hTjn := hTj.2.2.2.1
    have hSj := hS j (by omega)
    have htj := tc_v hj2
    exact ret _ _ _ _ _ _ _ _ hG ⟨rfl, j, so_j c_2 hj2, hj2, rfl, hj3, rfl⟩ (Nat.le_of_ble_eq_true rfl) (Nat.le_of_ble_eq_true rfl) dX2_snapshotOf_18
  · skip
    exact tht "java/lang/IndexOutOfBoundsException" ["java/lang/RuntimeException", "java/lang/Exception"] 166 168 _ _ _ _ _ _ _ hG (⟨rfl, iss_f1 (so_t c_2)⟩) (by decide) (by decide) (S.2.2.2.2 (.classLink RX2 166 "java/lang/IndexOutOfBoundsException") (by decide +kernel)) (S.2.2.2.2 (.initialized "java/lang/IndexOutOfBoundsException") (by decide +kernel)) (vx_hat (fun w h => S.2.2.2.2 w ((by decide +kernel : ∀ w ∈ (vx_at0 RX2 168 "java/lang/IndexOutOfBoundsException" ["java/lang/RuntimeException", "java/lang/Exception"]).filter goodWord, w ∈ wsX2_snapshotOf) w h)) (by decide +kernel : ∀ w ∈ (vx_at0 RX2 168 "java/lang/IndexOutOfBoundsException" ["java/lang/RuntimeException", "java/lang/Exception"]).filter (fun w => !goodWord w), w ∈ ov_NG) hG.2.2.2.2.1.2.2.use) (by decide +kernel) (hl.1.trans S.2.2.1.symm) dX2_snapshotOf_5 dX2_snapshotOf_8 dX2_snapshotOf_9 dX2_snapshotOf_12 (Nat.le_of_ble_eq_true rfl) (Nat.le_of_ble_eq_true rfl) (Nat.le_of_ble_eq_true rfl) (Nat.le_of_ble_eq_true rfl) (Nat.le_of_ble_eq_true rfl) (Nat.le_of_ble_eq_true rfl)

set_option maxHeartbeats 4000000 in
set_option maxRecDepth 100000 in
theorem c_X2_cursorOf (l : Launch) (hst : l.stackTraces = false) (G : Gx) (ad : Nat → Nat) (s0 : Nat) (f : Nat → va_E) (th : Nat → Bool) (cx : Nat → Nat) (kx vx : Nat → Nat → Int32) (px : Nat → Int) (dx : Nat → Bool) (v : Int32) (hX : RX G ad f th cx kx vx px dx) (hS : ∀ j, j < 21 → Srt (cx j) (kx j))  : xR l yX2_cursorOf wsX2_cursorOf 6 110 1 6 [.ref (ad 0), .int v] G 84 ad s0 f (fun E => E = xIO ∧ isc th v = false) (fun r f' => f = f' ∧ ∃ q, q < 8 ∧ v = nI q ∧ th (13 + q) = true ∧ r = 44 + 4 * q) := by
  refine ov_xR (cc := cX2_cursorOf) (maxL := 2) hst (by decide) rfl (Nat.le_of_ble_eq_true rfl) ?_
  intro p e s m below meth c av Q S ret thx tht hG ls hl
  have S : CallFix p m c cX2_cursorOf 2 s av wsX2_cursorOf RX2 := S
  have hl : lv_has ls 2 [(0, .ref (ad 0)), (1, .int v)] := hl
  have i_X2 : ∀ w ∈ u_ws RX2 TX2 5, w ∈ wsX2_cursorOf := by decide +kernel
  have kf_26 := S.2.2.2.2 (.fieldLink RX2 26 "OrderedVersions" "cursors" "[LOrderedVersions$Cursor;") (by decide +kernel)
  have kf_30 := S.2.2.2.2 (.fieldLink RX2 30 "OrderedVersions" "cursorTaken" "[Z") (by decide +kernel)
  obtain ⟨hX0, ⟨g4, hX4, hg4⟩, ⟨g5, hX5, hg5⟩, ⟨g42, hX42, hg42⟩, ⟨g43, hX43, hg43⟩, hXT, hXC⟩ := id hX
  have hT0 : TB G 84 ad f 1 (cx 0) (kx 0) (vx 0) := hXT 0 (by decide)
  have hT0n := hT0.2.2.2.1
  have hS0 := hS 0 (by decide)
  refine lv_aload_n S.1 S.2.1 dX2_cursorOf_0 rfl (lv_at hl 0 rfl) ?_
  refine o_get S hG i_X2 (by decide) hX0 rfl 4 (by decide) kf_30 rfl dX2_cursorOf_1 ?_
  refine lv_iload_n S.1 S.2.1 dX2_cursorOf_4 rfl (lv_at hl 1 rfl) ?_
  refine o_cSi S (rest := []) (c_X2_isTaken l G ad s0 f 43 8 g43 (fun q => th (13 + q)) v (by decide) hX43 (by decide) hg43) (va_cwS 2 S.2.2.2.2 gX2_cursorOf_X2_isTaken rfl rfl rfl (by decide +kernel) ⟨(Nat.le_of_ble_eq_true rfl), (Nat.le_of_ble_eq_true rfl)⟩) hG rfl hl.1 rfl (Nat.le_of_ble_eq_true rfl) dX2_cursorOf_5 ⟨(Nat.le_of_ble_eq_true rfl), (Nat.le_of_ble_eq_true rfl)⟩ (fun r9 f9 H locs hp hG => ?_)
  obtain ⟨rfl, rfl⟩ := hp
  refine b_if_ne S (b := (itk 8 (fun q => th (13 + q)) v)) (tgt := 19) dX2_cursorOf_8 (by decide) (fun c_8 => ?_) (fun c_8 => ?_)
  · skip
    obtain ⟨q, hq1, rfl, hq2⟩ := isc_ex (th := th) c_8
    refine lv_aload_n S.1 S.2.1 dX2_cursorOf_19 rfl (lv_at hl 0 rfl) ?_
    refine o_get S hG i_X2 (by decide) hX0 rfl 3 (by decide) kf_26 rfl dX2_cursorOf_20 ?_
    refine lv_iload_n S.1 S.2.1 dX2_cursorOf_23 rfl (lv_at hl 1 rfl) ?_
    refine o_Uald S hG (j := q) (by decide) hX42 (by omega) (hg42 q (by omega)) dX2_cursorOf_24 (kk := ?_)
    exact ret _ _ _ _ _ _ _ _ hG ⟨rfl, q, hq1, rfl, hq2, rfl⟩ (Nat.le_of_ble_eq_true rfl) (Nat.le_of_ble_eq_true rfl) dX2_cursorOf_25
  · skip
    exact tht "java/lang/IndexOutOfBoundsException" ["java/lang/RuntimeException", "java/lang/Exception"] 166 168 _ _ _ _ _ _ _ hG (⟨rfl, c_8⟩) (by decide) (by decide) (S.2.2.2.2 (.classLink RX2 166 "java/lang/IndexOutOfBoundsException") (by decide +kernel)) (S.2.2.2.2 (.initialized "java/lang/IndexOutOfBoundsException") (by decide +kernel)) (vx_hat (fun w h => S.2.2.2.2 w ((by decide +kernel : ∀ w ∈ (vx_at0 RX2 168 "java/lang/IndexOutOfBoundsException" ["java/lang/RuntimeException", "java/lang/Exception"]).filter goodWord, w ∈ wsX2_cursorOf) w h)) (by decide +kernel : ∀ w ∈ (vx_at0 RX2 168 "java/lang/IndexOutOfBoundsException" ["java/lang/RuntimeException", "java/lang/Exception"]).filter (fun w => !goodWord w), w ∈ ov_NG) hG.2.2.2.2.1.2.2.use) (by decide +kernel) (hl.1.trans S.2.2.1.symm) dX2_cursorOf_11 dX2_cursorOf_14 dX2_cursorOf_15 dX2_cursorOf_18 (Nat.le_of_ble_eq_true rfl) (Nat.le_of_ble_eq_true rfl) (Nat.le_of_ble_eq_true rfl) (Nat.le_of_ble_eq_true rfl) (Nat.le_of_ble_eq_true rfl) (Nat.le_of_ble_eq_true rfl)

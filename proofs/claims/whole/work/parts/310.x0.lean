set_option maxHeartbeats 4000000 in
set_option maxRecDepth 100000 in
theorem c_X0_start (l : Launch) (G : Gx) (N : Nat) (ad : Nat → Nat) (s0 : Nat) (f : Nat → va_E) (u n : Nat) (k v : Nat → Int32) (d : Bool) (p0 : Int) (o n2 : Nat) (k2 v2 : Nat → Int32) (key : Int32) (dw : Bool) (hC : CB ad f u d p0) (hT : TB G N ad f (u + 1) n k v) (hU : TB G N ad f o n2 k2 v2) (hap : u + 3 < o ∨ o + 2 < u) : mV l yX0_start wsX0_start 4 101 0 0 [.ref (ad u), .ref (ad o), .int key, .int (bI dw)] G N ad s0 f (fun f' => OnC u f f' ∧ ∃ k3 v3, TB G N ad f' (u + 1) n2 k3 v3 ∧ CB ad f' u dw (neaZ n2 k3 key (!dw)) ∧ ∀ i, i < n2 → k3 i = k2 i ∧ v3 i = v2 i) := by
  refine ov_mV (cc := cX0_start) (maxL := 4) (by decide) rfl (Nat.le_of_ble_eq_true rfl) ?_
  intro p e s m below meth c av Q S ret hG ls hl
  have S : CallFix p m c cX0_start 4 s av wsX0_start RX0 := S
  have hl : lv_has ls 4 [(0, .ref (ad u)), (1, .ref (ad o)), (2, .int key), (3, .int (bI dw))] := hl
  have i_X0 : ∀ w ∈ u_ws RX0 TX0 3, w ∈ wsX0_start := by decide +kernel
  have kf_10 := S.2.2.2.2 (.fieldLink RX0 10 "OrderedVersions$Cursor" "map" "LOrderedVersions$Table;") (by decide +kernel)
  have kf_20 := S.2.2.2.2 (.fieldLink RX0 20 "OrderedVersions$Cursor" "down" "Z") (by decide +kernel)
  have kf_28 := S.2.2.2.2 (.fieldLink RX0 28 "OrderedVersions$Cursor" "at" "I") (by decide +kernel)
  have hTn := hT.2.2.2.1
  have hTN := hT.2.2.2.2
  have hUn := hU.2.2.2.1
  have hUN := hU.2.2.2.2
  have hO : OnC u f f := OnC.rf
  refine lv_aload_n S.1 S.2.1 dX0_start_0 rfl (lv_at hl 0 rfl) ?_
  refine o_get S hG i_X0 (by omega) hC rfl 0 (by decide) kf_10 rfl dX0_start_1 ?_
  refine lv_aload_n S.1 S.2.1 dX0_start_4 rfl (lv_at hl 1 rfl) ?_
  refine o_cVv S (rest := []) (c_X1_copyFrom l G N ad s0 f (u + 1) n k v o n2 k2 v2 hT hU (by omega)) (cwV 1 S.2.2.2.2 gX0_start_X1_copyFrom rfl rfl rfl (by decide +kernel) ⟨(Nat.le_of_ble_eq_true rfl), (Nat.le_of_ble_eq_true rfl)⟩) hG hT.lt0 hT.1 rfl rfl hl.1 rfl (Nat.le_of_ble_eq_true rfl) dX0_start_5 ⟨(Nat.le_of_ble_eq_true rfl), (Nat.le_of_ble_eq_true rfl)⟩ (fun f9 H locs hp hG => ?_)
  obtain ⟨k3, v3, hT, hO9, hk9⟩ := hp
  have hC : CB ad f9 u d p0 := (hO9 u (by omega)).trans hC
  have hO := hO.on hO9
  refine lv_aload_n S.1 S.2.1 dX0_start_8 rfl (lv_at hl 0 rfl) ?_
  refine lv_iload_n S.1 S.2.1 dX0_start_9 rfl (lv_at hl 3 rfl) ?_
  refine o_put S hG i_X0 tyX0_ok nmX0 (by omega) hC rfl 1 (by decide) kf_20 rfl (bI_narrow _) (bI_fits _) (Nat.le_of_ble_eq_true rfl) dX0_start_10 (fun H locs hG => ?_)
  obtain ⟨f_1, ef_1, hG⟩ := ov_name hG
  have hC := hC.ud (d2 := dw) ef_1
  have hO := hO.up ef_1 (by omega)
  have hT := hT.ne ef_1 (by omega) (by omega) (by omega)
  refine lv_aload_n S.1 S.2.1 dX0_start_13 rfl (lv_at hl 0 rfl) ?_
  refine lv_aload_n S.1 S.2.1 dX0_start_14 rfl (lv_at hl 0 rfl) ?_
  refine o_get S hG i_X0 (by omega) hC rfl 0 (by decide) kf_10 rfl dX0_start_15 ?_
  refine lv_iload_n S.1 S.2.1 dX0_start_18 rfl (lv_at hl 2 rfl) ?_
  refine lv_iload_n S.1 S.2.1 dX0_start_19 rfl (lv_at hl 3 rfl) ?_
  refine b_if_ne S (b := dw) (tgt := 27) dX0_start_20 (by decide) (fun c_20 => ?_) (fun c_20 => ?_)
  · skip
    refine lv_iconst (v := (nI 0)) S.1 S.2.1 dX0_start_27 (by decide) ?_
    refine o_cVi S (rest := [.ref (ad u)]) (c_X1_nearest l G N ad s0 f_1 (u + 1) n2 k3 v3 key false hT) (cwV 2 S.2.2.2.2 gX0_start_X1_nearest rfl rfl rfl (by decide +kernel) ⟨(Nat.le_of_ble_eq_true rfl), (Nat.le_of_ble_eq_true rfl)⟩) hG hT.lt0 hT.1 rfl rfl hl.1 rfl (Nat.le_of_ble_eq_true rfl) dX0_start_28 ⟨(Nat.le_of_ble_eq_true rfl), (Nat.le_of_ble_eq_true rfl)⟩ (fun r9 f9 H locs hp hG => ?_)
    obtain ⟨rfl, rfl⟩ := hp
    refine o_top (nea_z _ _ _ _) ?_
    refine o_put S hG i_X0 tyX0_ok nmX0 (by omega) hC rfl 2 (by decide) kf_28 rfl rfl rfl (Nat.le_of_ble_eq_true rfl) dX0_start_31 (fun H locs hG => ?_)
    obtain ⟨f_2, ef_2, hG⟩ := ov_name hG
    have hC := hC.up (p2 := (neaZ n2 k3 key false)) ef_2
    have hO := hO.up ef_2 (by omega)
    have hT := hT.ne ef_2 (by omega) (by omega) (by omega)
    exact ret _ _ _ _ _ _ _ hG ⟨hO, _, _, hT, by rw [c_20] at hC ⊢; exact hC, hk9⟩ (Nat.le_of_ble_eq_true rfl) (Nat.le_of_ble_eq_true rfl) dX0_start_34
  · skip
    refine lv_iconst (v := (nI 1)) S.1 S.2.1 dX0_start_23 (by decide) ?_
    refine lv_goto (tgt := 28) S.1 S.2.1 dX0_start_24 (by decide) ?_
    refine o_cVi S (rest := [.ref (ad u)]) (c_X1_nearest l G N ad s0 f_1 (u + 1) n2 k3 v3 key true hT) (cwV 2 S.2.2.2.2 gX0_start_X1_nearest rfl rfl rfl (by decide +kernel) ⟨(Nat.le_of_ble_eq_true rfl), (Nat.le_of_ble_eq_true rfl)⟩) hG hT.lt0 hT.1 rfl rfl hl.1 rfl (Nat.le_of_ble_eq_true rfl) dX0_start_28 ⟨(Nat.le_of_ble_eq_true rfl), (Nat.le_of_ble_eq_true rfl)⟩ (fun r9 f9 H locs hp hG => ?_)
    obtain ⟨rfl, rfl⟩ := hp
    refine o_top (nea_z _ _ _ _) ?_
    refine o_put S hG i_X0 tyX0_ok nmX0 (by omega) hC rfl 2 (by decide) kf_28 rfl rfl rfl (Nat.le_of_ble_eq_true rfl) dX0_start_31 (fun H locs hG => ?_)
    obtain ⟨f_3, ef_3, hG⟩ := ov_name hG
    have hC := hC.up (p2 := (neaZ n2 k3 key true)) ef_3
    have hO := hO.up ef_3 (by omega)
    have hT := hT.ne ef_3 (by omega) (by omega) (by omega)
    exact ret _ _ _ _ _ _ _ hG ⟨hO, _, _, hT, by rw [c_20] at hC ⊢; exact hC, hk9⟩ (Nat.le_of_ble_eq_true rfl) (Nat.le_of_ble_eq_true rfl) dX0_start_34

set_option maxHeartbeats 4000000 in
set_option maxRecDepth 100000 in
theorem c_X0_stop (l : Launch) (G : Gx) (N : Nat) (ad : Nat → Nat) (s0 : Nat) (f : Nat → va_E) (u n : Nat) (k v : Nat → Int32) (d : Bool) (p0 : Int)  (hC : CB ad f u d p0) (hT : TB G N ad f (u + 1) n k v)  : mV l yX0_stop wsX0_stop 0 0 0 0 [.ref (ad u)] G N ad s0 f (fun f' => OnC u f f' ∧ TB G N ad f' (u + 1) 0 k v ∧ CB ad f' u d 0) := by
  refine ov_mV (cc := cX0_stop) (maxL := 1) (by decide) rfl (Nat.le_of_ble_eq_true rfl) ?_
  intro p e s m below meth c av Q S ret hG ls hl
  have S : CallFix p m c cX0_stop 1 s av wsX0_stop RX0 := S
  have hl : lv_has ls 1 [(0, .ref (ad u))] := hl
  have i_X0 : ∀ w ∈ u_ws RX0 TX0 3, w ∈ wsX0_stop := by decide +kernel
  have i_X1 : ∀ w ∈ u_ws RX1 TX1 3, w ∈ wsX0_stop := by decide +kernel
  have kf_10 := S.2.2.2.2 (.fieldLink RX0 10 "OrderedVersions$Cursor" "map" "LOrderedVersions$Table;") (by decide +kernel)
  have kf_28 := S.2.2.2.2 (.fieldLink RX0 28 "OrderedVersions$Cursor" "at" "I") (by decide +kernel)
  have kf_32 := S.2.2.2.2 (.fieldLink RX0 32 "OrderedVersions$Table" "count" "I") (by decide +kernel)
  have hTn := hT.2.2.2.1
  have hTN := hT.2.2.2.2
  have hO : OnC u f f := OnC.rf
  refine lv_aload_n S.1 S.2.1 dX0_stop_0 rfl (lv_at hl 0 rfl) ?_
  refine o_get S hG i_X0 (by omega) hC rfl 0 (by decide) kf_10 rfl dX0_stop_1 ?_
  refine lv_iconst (v := (nI 0)) S.1 S.2.1 dX0_stop_4 (by decide) ?_
  refine o_put S hG i_X1 tyX1_ok nmX1 hT.lt0 hT.1 rfl 2 (by decide) kf_32 rfl rfl rfl (Nat.le_of_ble_eq_true rfl) dX0_stop_5 (fun H locs hG => ?_)
  obtain ⟨f_1, ef_1, hG⟩ := ov_name hG
  have hC := hC.ne ef_1 (by omega)
  have hO := hO.up ef_1 (by omega)
  have hT := hT.upn ef_1 (n2 := 0) (by omega)
  refine lv_aload_n S.1 S.2.1 dX0_stop_8 rfl (lv_at hl 0 rfl) ?_
  refine lv_iconst (v := (nI 0)) S.1 S.2.1 dX0_stop_9 (by decide) ?_
  refine o_put S hG i_X0 tyX0_ok nmX0 (by omega) hC rfl 2 (by decide) kf_28 rfl rfl rfl (Nat.le_of_ble_eq_true rfl) dX0_stop_10 (fun H locs hG => ?_)
  obtain ⟨f_2, ef_2, hG⟩ := ov_name hG
  have hC := hC.up (p2 := 0) ef_2
  have hO := hO.up ef_2 (by omega)
  have hT := hT.ne ef_2 (by omega) (by omega) (by omega)
  exact ret _ _ _ _ _ _ _ hG ⟨hO, hT, hC⟩ (Nat.le_of_ble_eq_true rfl) (Nat.le_of_ble_eq_true rfl) dX0_stop_13

theorem lft_d {d : Bool} {p : Int} {n : Nat} (hW : WCp d p n) (_hn : n ≤ 600) (h : d = true) : zI p + nI 1 = nI (lft d p n) := by
  subst h
  unfold WCp at hW
  rw [if_pos rfl] at hW
  rw [zI_p1, zI_toNat (by omega)]; rfl
theorem lft_u {d : Bool} {p : Int} {n : Nat} (hW : WCp d p n) (_hn : n ≤ 600) (h : d = false) : nI n - zI p = nI (lft d p n) := by
  subst h
  unfold WCp at hW
  rw [if_neg (by decide)] at hW
  rw [← zI_nat n, zI_sub, zI_toNat (by omega)]; rfl
theorem zI_neg (p : Int) (i : Nat) : zI p + (-nI i) = zI (p - i) := by
  rw [← zI_nat, ← Int32.sub_eq_add_neg, zI_sub]
theorem zI_pos (p : Int) (i : Nat) : zI p + nI i = zI (p + i) := by rw [← zI_nat, zI_add]

set_option maxHeartbeats 4000000 in
set_option maxRecDepth 100000 in
theorem c_X0_countLeft (l : Launch) (G : Gx) (N : Nat) (ad : Nat → Nat) (s0 : Nat) (f : Nat → va_E) (u n : Nat) (k v : Nat → Int32) (d : Bool) (p0 : Int)  (hC : CB ad f u d p0) (hT : TB G N ad f (u + 1) n k v) (hW : WCp d p0 n) : mI l yX0_countLeft wsX0_countLeft 0 0 0 0 [.ref (ad u)] G N ad s0 f (fun r f' => f = f' ∧ r = nI (lft d p0 n)) := by
  refine ov_mI (cc := cX0_countLeft) (maxL := 1) (ty := .int) (by decide) rfl (Nat.le_of_ble_eq_true rfl) ?_
  intro p e s m below meth c av Q S ret hG ls hl
  have S : CallFix p m c cX0_countLeft 1 s av wsX0_countLeft RX0 := S
  have hl : lv_has ls 1 [(0, .ref (ad u))] := hl
  have i_X0 : ∀ w ∈ u_ws RX0 TX0 3, w ∈ wsX0_countLeft := by decide +kernel
  have i_X1 : ∀ w ∈ u_ws RX1 TX1 3, w ∈ wsX0_countLeft := by decide +kernel
  have kf_10 := S.2.2.2.2 (.fieldLink RX0 10 "OrderedVersions$Cursor" "map" "LOrderedVersions$Table;") (by decide +kernel)
  have kf_20 := S.2.2.2.2 (.fieldLink RX0 20 "OrderedVersions$Cursor" "down" "Z") (by decide +kernel)
  have kf_28 := S.2.2.2.2 (.fieldLink RX0 28 "OrderedVersions$Cursor" "at" "I") (by decide +kernel)
  have kf_32 := S.2.2.2.2 (.fieldLink RX0 32 "OrderedVersions$Table" "count" "I") (by decide +kernel)
  have hTn := hT.2.2.2.1
  have hTN := hT.2.2.2.2
  refine lv_aload_n S.1 S.2.1 dX0_countLeft_0 rfl (lv_at hl 0 rfl) ?_
  refine o_get S hG i_X0 (by omega) hC rfl 1 (by decide) kf_20 rfl dX0_countLeft_1 ?_
  refine b_if_eq S (b := d) (tgt := 16) dX0_countLeft_4 (by decide) (fun c_4 => ?_) (fun c_4 => ?_)
  · skip
    refine lv_aload_n S.1 S.2.1 dX0_countLeft_16 rfl (lv_at hl 0 rfl) ?_
    refine o_get S hG i_X0 (by omega) hC rfl 0 (by decide) kf_10 rfl dX0_countLeft_17 ?_
    refine o_get S hG i_X1 hT.lt0 hT.1 rfl 2 (by decide) kf_32 rfl dX0_countLeft_20 ?_
    refine lv_aload_n S.1 S.2.1 dX0_countLeft_23 rfl (lv_at hl 0 rfl) ?_
    refine o_get S hG i_X0 (by omega) hC rfl 2 (by decide) kf_28 rfl dX0_countLeft_24 ?_
    refine lv_isub S.1 S.2.1 dX0_countLeft_27 ?_
    exact ret _ _ _ _ _ _ _ _ hG ⟨rfl, lft_u hW hTn c_4⟩ rfl (Nat.le_of_ble_eq_true rfl) (Nat.le_of_ble_eq_true rfl) dX0_countLeft_28
  · skip
    refine lv_aload_n S.1 S.2.1 dX0_countLeft_7 rfl (lv_at hl 0 rfl) ?_
    refine o_get S hG i_X0 (by omega) hC rfl 2 (by decide) kf_28 rfl dX0_countLeft_8 ?_
    refine lv_iconst (v := (nI 1)) S.1 S.2.1 dX0_countLeft_11 (by decide) ?_
    refine lv_iadd S.1 S.2.1 dX0_countLeft_12 ?_
    refine lv_goto (tgt := 28) S.1 S.2.1 dX0_countLeft_13 (by decide) ?_
    exact ret _ _ _ _ _ _ _ _ hG ⟨rfl, lft_d hW hTn c_4⟩ rfl (Nat.le_of_ble_eq_true rfl) (Nat.le_of_ble_eq_true rfl) dX0_countLeft_28

set_option maxHeartbeats 4000000 in
set_option maxRecDepth 100000 in
theorem c_X0_goOver (l : Launch) (G : Gx) (N : Nat) (ad : Nat → Nat) (s0 : Nat) (f : Nat → va_E) (u n : Nat) (k v : Nat → Int32) (d : Bool) (p0 : Int) (i : Nat) (hC : CB ad f u d p0) (hT : TB G N ad f (u + 1) n k v)  : mV l yX0_goOver wsX0_goOver 0 0 0 0 [.ref (ad u), .int (nI i)] G N ad s0 f (fun f' => (∀ c, c ≠ u → f' c = f c) ∧ CB ad f' u d (stp d p0 i)) := by
  refine ov_mV (cc := cX0_goOver) (maxL := 2) (by decide) rfl (Nat.le_of_ble_eq_true rfl) ?_
  intro p e s m below meth c av Q S ret hG ls hl
  have S : CallFix p m c cX0_goOver 2 s av wsX0_goOver RX0 := S
  have hl : lv_has ls 2 [(0, .ref (ad u)), (1, .int (nI i))] := hl
  have i_X0 : ∀ w ∈ u_ws RX0 TX0 3, w ∈ wsX0_goOver := by decide +kernel
  have kf_20 := S.2.2.2.2 (.fieldLink RX0 20 "OrderedVersions$Cursor" "down" "Z") (by decide +kernel)
  have kf_28 := S.2.2.2.2 (.fieldLink RX0 28 "OrderedVersions$Cursor" "at" "I") (by decide +kernel)
  have hTn := hT.2.2.2.1
  have hTN := hT.2.2.2.2
  refine lv_aload_n S.1 S.2.1 dX0_goOver_0 rfl (lv_at hl 0 rfl) ?_
  refine lv_dup S.1 S.2.1 dX0_goOver_1 rfl ?_
  refine o_get S hG i_X0 (by omega) hC rfl 2 (by decide) kf_28 rfl dX0_goOver_2 ?_
  refine lv_aload_n S.1 S.2.1 dX0_goOver_5 rfl (lv_at hl 0 rfl) ?_
  refine o_get S hG i_X0 (by omega) hC rfl 1 (by decide) kf_20 rfl dX0_goOver_6 ?_
  refine b_if_eq S (b := d) (tgt := 17) dX0_goOver_9 (by decide) (fun c_9 => ?_) (fun c_9 => ?_)
  · skip
    refine lv_iload_n S.1 S.2.1 dX0_goOver_17 rfl (lv_at hl 1 rfl) ?_
    refine lv_iadd S.1 S.2.1 dX0_goOver_18 ?_
    refine o_top (zI_pos _ _) ?_
    refine o_put S hG i_X0 tyX0_ok nmX0 (by omega) hC rfl 2 (by decide) kf_28 rfl rfl rfl (Nat.le_of_ble_eq_true rfl) dX0_goOver_19 (fun H locs hG => ?_)
    obtain ⟨f_1, ef_1, hG⟩ := ov_name hG
    have hC := hC.up (p2 := (p0 + (i : Int))) ef_1
    have hT := hT.ne ef_1 (by omega) (by omega) (by omega)
    exact ret _ _ _ _ _ _ _ hG ⟨fun c hc => by rw [ef_1, va_up_ne _ _ hc], by unfold stp; rw [if_neg (Bool.eq_false_iff.mp c_9)]; exact hC⟩ (Nat.le_of_ble_eq_true rfl) (Nat.le_of_ble_eq_true rfl) dX0_goOver_22
  · skip
    refine lv_iload_n S.1 S.2.1 dX0_goOver_12 rfl (lv_at hl 1 rfl) ?_
    refine lv_ineg S.1 S.2.1 dX0_goOver_13 ?_
    refine lv_goto (tgt := 18) S.1 S.2.1 dX0_goOver_14 (by decide) ?_
    refine lv_iadd S.1 S.2.1 dX0_goOver_18 ?_
    refine o_top (zI_neg _ _) ?_
    refine o_put S hG i_X0 tyX0_ok nmX0 (by omega) hC rfl 2 (by decide) kf_28 rfl rfl rfl (Nat.le_of_ble_eq_true rfl) dX0_goOver_19 (fun H locs hG => ?_)
    obtain ⟨f_2, ef_2, hG⟩ := ov_name hG
    have hC := hC.up (p2 := (p0 - (i : Int))) ef_2
    have hT := hT.ne ef_2 (by omega) (by omega) (by omega)
    exact ret _ _ _ _ _ _ _ hG ⟨fun c hc => by rw [ef_2, va_up_ne _ _ hc], by unfold stp; rw [if_pos c_9]; exact hC⟩ (Nat.le_of_ble_eq_true rfl) (Nat.le_of_ble_eq_true rfl) dX0_goOver_22

set_option maxHeartbeats 4000000 in
set_option maxRecDepth 100000 in
theorem c_X0_countWrong (l : Launch) (G : Gx) (N : Nat) (ad : Nat → Nat) (s0 : Nat) (f : Nat → va_E) (u n : Nat) (k v : Nat → Int32) (d : Bool) (p0 : Int) (tk : Bool) (hC : CB ad f u d p0) (hT : TB G N ad f (u + 1) n k v) (hp9 : -1 ≤ p0 ∧ p0 ≤ n) (hS : Srt n k) (h0 : tk = false → n = 0) : mI l yX0_countWrong wsX0_countWrong 1 23 0 0 [.ref (ad u), .int (bI tk)] G N ad s0 f (fun r f' => f = f' ∧ r = nI 0) := by
  refine ov_mI (cc := cX0_countWrong) (maxL := 3) (ty := .int) (by decide) rfl (Nat.le_of_ble_eq_true rfl) ?_
  intro p e s m below meth c av Q S ret hG ls hl
  have S : CallFix p m c cX0_countWrong 3 s av wsX0_countWrong RX0 := S
  have hl : lv_has ls 3 [(0, .ref (ad u)), (1, .int (bI tk))] := hl
  have i_X0 : ∀ w ∈ u_ws RX0 TX0 3, w ∈ wsX0_countWrong := by decide +kernel
  have i_X1 : ∀ w ∈ u_ws RX1 TX1 3, w ∈ wsX0_countWrong := by decide +kernel
  have kf_10 := S.2.2.2.2 (.fieldLink RX0 10 "OrderedVersions$Cursor" "map" "LOrderedVersions$Table;") (by decide +kernel)
  have kf_28 := S.2.2.2.2 (.fieldLink RX0 28 "OrderedVersions$Cursor" "at" "I") (by decide +kernel)
  have kf_32 := S.2.2.2.2 (.fieldLink RX0 32 "OrderedVersions$Table" "count" "I") (by decide +kernel)
  have hTn := hT.2.2.2.1
  have hTN := hT.2.2.2.2
  refine lv_aload_n S.1 S.2.1 dX0_countWrong_0 rfl (lv_at hl 0 rfl) ?_
  refine o_get S hG i_X0 (by omega) hC rfl 2 (by decide) kf_28 rfl dX0_countWrong_1 ?_
  refine lv_iconst (v := (-1)) S.1 S.2.1 dX0_countWrong_4 (by decide) ?_
  refine lv_icmp_lt (tgt := 22) S.1 S.2.1 dX0_countWrong_5 (by decide) (fun c_5 => ?_) (fun c_5 => ?_)
  · skip
    exact absurd c_5 (by rw [show (-1 : Int32) = zI (-1) by decide, i32_lt, zI_toInt (by omega) (by omega), zI_toInt (by omega) (by omega)]; omega)
  · skip
    refine lv_aload_n S.1 S.2.1 dX0_countWrong_8 rfl (lv_at hl 0 rfl) ?_
    refine o_get S hG i_X0 (by omega) hC rfl 2 (by decide) kf_28 rfl dX0_countWrong_9 ?_
    refine lv_aload_n S.1 S.2.1 dX0_countWrong_12 rfl (lv_at hl 0 rfl) ?_
    refine o_get S hG i_X0 (by omega) hC rfl 0 (by decide) kf_10 rfl dX0_countWrong_13 ?_
    refine o_get S hG i_X1 hT.lt0 hT.1 rfl 2 (by decide) kf_32 rfl dX0_countWrong_16 ?_
    refine lv_icmp_le (tgt := 26) S.1 S.2.1 dX0_countWrong_19 (by decide) (fun c_19 => ?_) (fun c_19 => ?_)
    · skip
      refine lv_iconst (v := (nI 0)) S.1 S.2.1 dX0_countWrong_26 (by decide) ?_
      refine lv_istore_n (lv' := [(2, .int (nI 0)), (0, .ref (ad u)), (1, .int (bI tk))]) S.1 S.2.1 dX0_countWrong_27 rfl hl (by decide) rfl (fun ls hl => ?_)
      refine lv_aload_n S.1 S.2.1 dX0_countWrong_28 rfl (lv_at hl 1 rfl) ?_
      refine o_get S hG i_X0 (by omega) hC rfl 0 (by decide) kf_10 rfl dX0_countWrong_29 ?_
      refine lv_iload_n S.1 S.2.1 dX0_countWrong_32 rfl (lv_at hl 2 rfl) ?_
      refine o_cVi S (rest := []) (c_X1_countWrong l G N ad s0 f (u + 1) n k v tk hT hS h0) (cwV 1 S.2.2.2.2 gX0_countWrong_X1_countWrong rfl rfl rfl (by decide +kernel) ⟨(Nat.le_of_ble_eq_true rfl), (Nat.le_of_ble_eq_true rfl)⟩) hG hT.lt0 hT.1 rfl rfl hl.1 rfl (Nat.le_of_ble_eq_true rfl) dX0_countWrong_33 ⟨(Nat.le_of_ble_eq_true rfl), (Nat.le_of_ble_eq_true rfl)⟩ (fun r9 f9 H locs hp hG => ?_)
      obtain ⟨rfl, rfl⟩ := hp
      refine lv_iload_n S.1 S.2.1 dX0_countWrong_36 rfl (lv_at hl 0 rfl) ?_
      refine n_if_eq S (a := 0) (tgt := 44) dX0_countWrong_37 (by decide) (by omega) (fun c_37 => ?_) (fun c_37 => ?_)
      · skip
        refine lv_iconst (v := (nI 0)) S.1 S.2.1 dX0_countWrong_44 (by decide) ?_
        refine o_add S (a := 0) (b := 0) dX0_countWrong_45 ?_
        exact ret _ _ _ _ _ _ _ _ hG ⟨rfl, rfl⟩ rfl (Nat.le_of_ble_eq_true rfl) (Nat.le_of_ble_eq_true rfl) dX0_countWrong_46
      · skip
        exact absurd c_37 (by decide)
    · skip
      exact absurd (by rw [i32_le, zI_toInt (by omega) (by omega), nI_toInt (by omega)]; omega) c_19

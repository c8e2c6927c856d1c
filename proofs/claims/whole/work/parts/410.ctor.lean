set_option maxHeartbeats 4000000 in
set_option maxRecDepth 100000 in
theorem c_X1_init (l : Launch) (G : Gx) (N : Nat) (ad : Nat → Nat) (s0 : Nat) (f : Nat → va_E) (hc0 : f N = .inr (1, [.null, .null, .int 0])) : mC l yX1_init wsX1_init 1 24 2 1200 [.ref (ad N)] G (N + 1) ad s0 f (N + 3) (fun ad' f' => (∀ k, k < N + 1 → ad' k = ad k) ∧ (∀ k, k < N → f' k = f k) ∧ TB G (N + 3) ad' f' N 0 (fun _ => 0) (fun _ => 0)) := by
  refine ov_mC (cc := cX1_init) (maxL := 1) (by decide) rfl (Nat.le_of_ble_eq_true rfl) ?_
  intro p e s m below meth c av Q S hnm ret hG hNx ls hl
  have S : CallFix p m c cX1_init 1 s av wsX1_init RX1 := S
  have hl : lv_has ls 1 [(0, .ref (ad N))] := hl
  have i_X1 : ∀ w ∈ u_ws RX1 TX1 3, w ∈ wsX1_init := by decide +kernel
  have kf_9 := S.2.2.2.2 (.fieldLink RX1 9 "OrderedVersions$Table" "keys" "[I") (by decide +kernel)
  have kf_15 := S.2.2.2.2 (.fieldLink RX1 15 "OrderedVersions$Table" "values" "[I") (by decide +kernel)
  refine lv_aload_n S.1 S.2.1 dX1_init_0 rfl (lv_at hl 0 rfl) ?_
  refine W.objInit S.1 S.2.1 S.2.2.2.1 (S.2.2.2.2 (.methodLink RX1 3 objectInit) (by decide +kernel)) (S.2.2.2.2 (.instanceMethod objectInit) (by decide +kernel)) (S.2.2.2.2 (.code objectInit ⟨#[0xb1]⟩ 1 none) (by decide +kernel)) rfl (hl.1.trans S.2.2.1.symm) rfl dX1_init_1 (Nat.le_of_ble_eq_true rfl) (Nat.le_of_ble_eq_true rfl) ?_
  refine W.eq (g2 := F0 m 4 ls []) rfl ?_
  refine lv_aload_n S.1 S.2.1 dX1_init_4 rfl (lv_at hl 0 rfl) ?_
  refine lv_sipush (v := nI 600) S.1 S.2.1 dX1_init_5 (by decide) ?_
  refine o_newa S hG (atype := .int) (ty := .int) (t0 := 0) (n := 600) (a0 := (600, .inl (fun _ => 0))) (S.2.2.2.2 (.arrayClass .int) (by decide +kernel)) rfl rfl (fun C h => by cases h) (cell_I 600) (by decide) (by decide) (show _ ≤ 2 by omega) (show _ ≤ 1200 by omega) dX1_init_8 (fun ad1 f1 H hg1 hn1 hG => ?_)
  rw [← hg1.1 N (by omega)] at hl ⊢
  have hc0 : f1 N = .inr (1, [.null, .null, .int 0]) := (hg1.2 N (by omega)).trans hc0
  refine o_putF S hG i_X1 tyX1_ok nmX1 (by omega) hc0 rfl 0 (by decide) kf_9 rfl hnm rfl rfl rfl (Nat.le_of_ble_eq_true rfl) dX1_init_10 (fun f2 H locs hz2 hc2 hG => ?_)
  have hn1 := (hz2 (N + 1) (by omega)).trans hn1
  refine lv_aload_n S.1 S.2.1 dX1_init_13 rfl (lv_at hl 0 rfl) ?_
  refine lv_sipush (v := nI 600) S.1 S.2.1 dX1_init_14 (by decide) ?_
  refine o_newa S hG (atype := .int) (ty := .int) (t0 := 0) (n := 600) (a0 := (600, .inl (fun _ => 0))) (S.2.2.2.2 (.arrayClass .int) (by decide +kernel)) rfl rfl (fun C h => by cases h) (cell_I 600) (by decide) (by decide) (show _ ≤ 2 by omega) (show _ ≤ 1200 by omega) dX1_init_17 (fun ad3 f3 H hg3 hn3 hG => ?_)
  rw [← hg3.1 N (by omega)] at hl ⊢
  have hc3 : f3 N = .inr (1, [.ref (ad3 (N + 1)), .null, .int 0]) := by rw [hg3.2 N (by omega), hc2, hg3.1 (N + 1) (by omega)]; rfl
  have hn1 := (hg3.2 (N + 1) (by omega)).trans hn1
  refine o_putF S hG i_X1 tyX1_ok nmX1 (by omega) hc3 rfl 1 (by decide) kf_15 rfl hnm rfl rfl rfl (Nat.le_of_ble_eq_true rfl) dX1_init_19 (fun f4 H locs hz4 hc4 hG => ?_)
  exact ret ad3 f4 _ _ _ _ _ _ hG ⟨fun k hk => (hg3.1 k (by omega)).trans (hg1.1 k hk), fun k hk => (hz4 k (by omega)).trans ((hg3.2 k (by omega)).trans ((hz2 k (by omega)).trans (hg1.2 k (by omega)))), by rw [hc4]; rfl, (hz4 _ (by omega)).trans hn1, (hz4 _ (by omega)).trans hn3, by decide, by omega⟩ (show _ ≤ 2 by omega) (show _ ≤ 1200 by omega) dX1_init_22
set_option maxHeartbeats 4000000 in
set_option maxRecDepth 100000 in
theorem c_X0_init (l : Launch) (G : Gx) (N : Nat) (ad : Nat → Nat) (s0 : Nat) (f : Nat → va_E) (hc0 : f N = .inr (0, [.null, .int 0, .int 0])) : mC l yX0_init wsX0_init 2 44 3 1203 [.ref (ad N)] G (N + 1) ad s0 f (N + 4) (fun ad' f' => (∀ k, k < N + 1 → ad' k = ad k) ∧ (∀ k, k < N → f' k = f k) ∧ TB G (N + 4) ad' f' (N + 1) 0 (fun _ => 0) (fun _ => 0) ∧ CB ad' f' N false 0) := by
  refine ov_mC (cc := cX0_init) (maxL := 1) (by decide) rfl (Nat.le_of_ble_eq_true rfl) ?_
  intro p e s m below meth c av Q S hnm ret hG hNx ls hl
  have S : CallFix p m c cX0_init 1 s av wsX0_init RX0 := S
  have hl : lv_has ls 1 [(0, .ref (ad N))] := hl
  have i_X0 : ∀ w ∈ u_ws RX0 TX0 3, w ∈ wsX0_init := by decide +kernel
  have kf_10 := S.2.2.2.2 (.fieldLink RX0 10 "OrderedVersions$Cursor" "map" "LOrderedVersions$Table;") (by decide +kernel)
  have i_X1 : ∀ w ∈ u_ws RX1 TX1 3, w ∈ wsX0_init := by decide +kernel
  refine lv_aload_n S.1 S.2.1 dX0_init_0 rfl (lv_at hl 0 rfl) ?_
  refine W.objInit S.1 S.2.1 S.2.2.2.1 (S.2.2.2.2 (.methodLink RX0 1 objectInit) (by decide +kernel)) (S.2.2.2.2 (.instanceMethod objectInit) (by decide +kernel)) (S.2.2.2.2 (.code objectInit ⟨#[0xb1]⟩ 1 none) (by decide +kernel)) rfl (hl.1.trans S.2.2.1.symm) rfl dX0_init_1 (Nat.le_of_ble_eq_true rfl) (Nat.le_of_ble_eq_true rfl) ?_
  refine W.eq (g2 := F0 m 4 ls []) rfl ?_
  refine lv_aload_n S.1 S.2.1 dX0_init_4 rfl (lv_at hl 0 rfl) ?_
  refine o_new S hG (ci := 1) (fs := [.null, .null, .int 0]) i_X1 tyX1_ok (S.2.2.2.2 (.classLink RX0 7 RX1) (by decide +kernel)) (S.2.2.2.2 (.instantiable RX1 3) (by decide +kernel)) (S.2.2.2.2 (.initialized RX1) (by decide +kernel)) rfl (fun j hj => by rcases (show j = 0 ∨ j = 1 ∨ j = 2 by omega) with rfl | rfl | rfl <;> rfl) (show _ ≤ 3 by omega) (show _ ≤ 1203 by omega) dX0_init_5 (fun ad1 f1 H hg1 hn1 hG => ?_)
  rw [← hg1.1 N (by omega)] at hl ⊢
  refine lv_dup S.1 S.2.1 dX0_init_8 rfl ?_
  refine o_cN S (rest := [.ref (ad1 (N + 1)), .ref (ad1 N)]) (c_X1_init l G (N + 1) ad1 s0 f1 hn1) ⟨va_cnB 0 S.2.2.2.2 gX0_init_X1_init_n9 rfl rfl rfl hNx.2.2.1 (S.2.2.2.2 (.initialized RX1) (by decide +kernel)) (by decide +kernel) ⟨(Nat.le_of_ble_eq_true rfl), (Nat.le_of_ble_eq_true rfl)⟩, rfl, (S.2.2.2.2 (.instanceMethod yX1_init) (by decide +kernel))⟩ hG hNx hl.1 rfl (Nat.le_of_ble_eq_true rfl) dX0_init_9 ⟨(show _ ≤ 3 by omega), (show _ ≤ 1203 by omega)⟩ (fun ad2 f2 H locs hp hG => ?_)
  obtain ⟨ha2, hf2, hT2⟩ := hp
  rw [← ha2 N (by omega)] at hl ⊢
  rw [← ha2 (N + 1) (by omega)]
  have hc2 : f2 N = .inr (0, [.null, .int 0, .int 0]) := by rw [hf2 N (by omega), hg1.2 N (by omega)]; exact hc0
  refine o_putF S hG i_X0 tyX0_ok nmX0 (by omega) hc2 rfl 0 (by decide) kf_10 rfl hnm rfl rfl rfl (Nat.le_of_ble_eq_true rfl) dX0_init_12 (fun f3 H locs hz3 hc3 hG => ?_)
  exact ret ad2 f3 _ _ _ _ _ _ hG ⟨fun k hk => (ha2 k (by omega)).trans (hg1.1 k hk), fun k hk => (hz3 k (by omega)).trans ((hf2 k (by omega)).trans (hg1.2 k (by omega))), hT2.gr1 hz3 (by omega), by unfold CB; rw [hc3]; rfl⟩ (show _ ≤ 3 by omega) (show _ ≤ 1203 by omega) dX0_init_15
set_option maxHeartbeats 4000000 in
set_option maxRecDepth 100000 in
theorem c_X3_init (l : Launch) (G : Gx) (ad : Nat → Nat) (s0 : Nat) (f : Nat → va_E) (hc0 : f 76 = .inr (3, [.int 0, .null, .null, .null, .null, .null, .null])) : mC l yX3_init wsX3_init 1 24 6 25258 [.ref (ad 76)] G 77 ad s0 f 83 (fun ad' f' => (∀ k, k < 77 → ad' k = ad k) ∧ (∀ k, k < 76 → f' k = f k) ∧ MB G ad' f' 0 (fun _ => 0) (fun _ => 0) (fun _ => 0) (va_up (fun _ => false) 0 true) (fun _ => 0) (fun _ => false)) := by
  refine ov_mC (cc := cX3_init) (maxL := 1) (by decide) rfl (Nat.le_of_ble_eq_true rfl) ?_
  intro p e s m below meth c av Q S hnm ret hG hNx ls hl
  have S : CallFix p m c cX3_init 1 s av wsX3_init RX3 := S
  have hl : lv_has ls 1 [(0, .ref (ad 76))] := hl
  have i_X3 : ∀ w ∈ u_ws RX3 TX3 7, w ∈ wsX3_init := by decide +kernel
  have kf_7 := S.2.2.2.2 (.fieldLink RX3 7 "OrderedVersionsModel" "keys" "[I") (by decide +kernel)
  have kf_13 := S.2.2.2.2 (.fieldLink RX3 13 "OrderedVersionsModel" "values" "[I") (by decide +kernel)
  have kf_16 := S.2.2.2.2 (.fieldLink RX3 16 "OrderedVersionsModel" "sizes" "[I") (by decide +kernel)
  have kf_19 := S.2.2.2.2 (.fieldLink RX3 19 "OrderedVersionsModel" "there" "[Z") (by decide +kernel)
  have kf_23 := S.2.2.2.2 (.fieldLink RX3 23 "OrderedVersionsModel" "places" "[I") (by decide +kernel)
  have kf_26 := S.2.2.2.2 (.fieldLink RX3 26 "OrderedVersionsModel" "downs" "[Z") (by decide +kernel)
  refine lv_aload_n S.1 S.2.1 dX3_init_0 rfl (lv_at hl 0 rfl) ?_
  refine W.objInit S.1 S.2.1 S.2.2.2.1 (S.2.2.2.2 (.methodLink RX3 1 objectInit) (by decide +kernel)) (S.2.2.2.2 (.instanceMethod objectInit) (by decide +kernel)) (S.2.2.2.2 (.code objectInit ⟨#[0xb1]⟩ 1 none) (by decide +kernel)) rfl (hl.1.trans S.2.2.1.symm) rfl dX3_init_1 (Nat.le_of_ble_eq_true rfl) (Nat.le_of_ble_eq_true rfl) ?_
  refine W.eq (g2 := F0 m 4 ls []) rfl ?_
  refine lv_aload_n S.1 S.2.1 dX3_init_4 rfl (lv_at hl 0 rfl) ?_
  refine lv_sipush (v := nI 12600) S.1 S.2.1 dX3_init_5 (by decide) ?_
  refine o_newa S hG (atype := .int) (ty := .int) (t0 := 0) (n := 12600) (a0 := (12600, .inl (fun _ => 0))) (S.2.2.2.2 (.arrayClass .int) (by decide +kernel)) rfl rfl (fun C h => by cases h) (cell_I 12600) (by decide) (by decide) (show _ ≤ 6 by omega) (show _ ≤ 25258 by omega) dX3_init_8 (fun ad1 f1 H hg0 hn0 hG => ?_)
  rw [← hg0.1 76 (by omega)] at hl ⊢
  have hc0 : f1 76 = .inr (3, [.int 0, .null, .null, .null, .null, .null, .null]) := by rw [hg0.2 76 (by omega), hc0]
  refine o_putF S hG i_X3 tyX3_ok nmX3 (by omega) hc0 rfl 1 (by decide) kf_7 rfl hnm rfl rfl rfl (Nat.le_of_ble_eq_true rfl) dX3_init_10 (fun f2 H locs hz0 hc1 hG => ?_)
  have hn0 := (hz0 77 (by omega)).trans hn0
  refine lv_aload_n S.1 S.2.1 dX3_init_13 rfl (lv_at hl 0 rfl) ?_
  refine lv_sipush (v := nI 12600) S.1 S.2.1 dX3_init_14 (by decide) ?_
  refine o_newa S hG (atype := .int) (ty := .int) (t0 := 0) (n := 12600) (a0 := (12600, .inl (fun _ => 0))) (S.2.2.2.2 (.arrayClass .int) (by decide +kernel)) rfl rfl (fun C h => by cases h) (cell_I 12600) (by decide) (by decide) (show _ ≤ 6 by omega) (show _ ≤ 25258 by omega) dX3_init_17 (fun ad3 f3 H hg1 hn1 hG => ?_)
  rw [← hg1.1 76 (by omega)] at hl ⊢
  have hc1 : f3 76 = .inr (3, [.int 0, .ref (ad3 77), .null, .null, .null, .null, .null]) := by rw [hg1.2 76 (by omega), hc1, hg1.1 77 (by omega)]; rfl
  have hn0 := (hg1.2 77 (by omega)).trans hn0
  refine o_putF S hG i_X3 tyX3_ok nmX3 (by omega) hc1 rfl 2 (by decide) kf_13 rfl hnm rfl rfl rfl (Nat.le_of_ble_eq_true rfl) dX3_init_19 (fun f4 H locs hz1 hc2 hG => ?_)
  have hn0 := (hz1 77 (by omega)).trans hn0
  have hn1 := (hz1 78 (by omega)).trans hn1
  refine lv_aload_n S.1 S.2.1 dX3_init_22 rfl (lv_at hl 0 rfl) ?_
  refine lv_bipush (v := nI 21) S.1 S.2.1 dX3_init_23 (by decide) ?_
  refine o_newa S hG (atype := .int) (ty := .int) (t0 := 0) (n := 21) (a0 := (21, .inl (fun _ => 0))) (S.2.2.2.2 (.arrayClass .int) (by decide +kernel)) rfl rfl (fun C h => by cases h) (cell_I 21) (by decide) (by decide) (show _ ≤ 6 by omega) (show _ ≤ 25258 by omega) dX3_init_25 (fun ad5 f5 H hg2 hn2 hG => ?_)
  rw [← hg2.1 76 (by omega)] at hl ⊢
  have hc2 : f5 76 = .inr (3, [.int 0, .ref (ad5 77), .ref (ad5 78), .null, .null, .null, .null]) := by rw [hg2.2 76 (by omega), hc2, hg2.1 77 (by omega), hg2.1 78 (by omega)]; rfl
  have hn0 := (hg2.2 77 (by omega)).trans hn0
  have hn1 := (hg2.2 78 (by omega)).trans hn1
  refine o_putF S hG i_X3 tyX3_ok nmX3 (by omega) hc2 rfl 3 (by decide) kf_16 rfl hnm rfl rfl rfl (Nat.le_of_ble_eq_true rfl) dX3_init_27 (fun f6 H locs hz2 hc3 hG => ?_)
  have hn0 := (hz2 77 (by omega)).trans hn0
  have hn1 := (hz2 78 (by omega)).trans hn1
  have hn2 := (hz2 79 (by omega)).trans hn2
  refine lv_aload_n S.1 S.2.1 dX3_init_30 rfl (lv_at hl 0 rfl) ?_
  refine lv_bipush (v := nI 21) S.1 S.2.1 dX3_init_31 (by decide) ?_
  refine o_newa S hG (atype := .boolean) (ty := .boolean) (t0 := 1) (n := 21) (a0 := (21, .inl (fun _ => 0))) (S.2.2.2.2 (.arrayClass .boolean) (by decide +kernel)) rfl rfl (fun C h => by cases h) (cell_Z 21) (by decide) (by decide) (show _ ≤ 6 by omega) (show _ ≤ 25258 by omega) dX3_init_33 (fun ad7 f7 H hg3 hn3 hG => ?_)
  rw [← hg3.1 76 (by omega)] at hl ⊢
  have hc3 : f7 76 = .inr (3, [.int 0, .ref (ad7 77), .ref (ad7 78), .ref (ad7 79), .null, .null, .null]) := by rw [hg3.2 76 (by omega), hc3, hg3.1 77 (by omega), hg3.1 78 (by omega), hg3.1 79 (by omega)]; rfl
  have hn0 := (hg3.2 77 (by omega)).trans hn0
  have hn1 := (hg3.2 78 (by omega)).trans hn1
  have hn2 := (hg3.2 79 (by omega)).trans hn2
  refine o_putF S hG i_X3 tyX3_ok nmX3 (by omega) hc3 rfl 4 (by decide) kf_19 rfl hnm rfl rfl rfl (Nat.le_of_ble_eq_true rfl) dX3_init_35 (fun f8 H locs hz3 hc4 hG => ?_)
  have hn0 := (hz3 77 (by omega)).trans hn0
  have hn1 := (hz3 78 (by omega)).trans hn1
  have hn2 := (hz3 79 (by omega)).trans hn2
  have hn3 := (hz3 80 (by omega)).trans hn3
  refine lv_aload_n S.1 S.2.1 dX3_init_38 rfl (lv_at hl 0 rfl) ?_
  refine lv_bipush (v := nI 8) S.1 S.2.1 dX3_init_39 (by decide) ?_
  refine o_newa S hG (atype := .int) (ty := .int) (t0 := 0) (n := 8) (a0 := (8, .inl (fun _ => 0))) (S.2.2.2.2 (.arrayClass .int) (by decide +kernel)) rfl rfl (fun C h => by cases h) (cell_I 8) (by decide) (by decide) (show _ ≤ 6 by omega) (show _ ≤ 25258 by omega) dX3_init_41 (fun ad9 f9 H hg4 hn4 hG => ?_)
  rw [← hg4.1 76 (by omega)] at hl ⊢
  have hc4 : f9 76 = .inr (3, [.int 0, .ref (ad9 77), .ref (ad9 78), .ref (ad9 79), .ref (ad9 80), .null, .null]) := by rw [hg4.2 76 (by omega), hc4, hg4.1 77 (by omega), hg4.1 78 (by omega), hg4.1 79 (by omega), hg4.1 80 (by omega)]; rfl
  have hn0 := (hg4.2 77 (by omega)).trans hn0
  have hn1 := (hg4.2 78 (by omega)).trans hn1
  have hn2 := (hg4.2 79 (by omega)).trans hn2
  have hn3 := (hg4.2 80 (by omega)).trans hn3
  refine o_putF S hG i_X3 tyX3_ok nmX3 (by omega) hc4 rfl 5 (by decide) kf_23 rfl hnm rfl rfl rfl (Nat.le_of_ble_eq_true rfl) dX3_init_43 (fun f10 H locs hz4 hc5 hG => ?_)
  have hn0 := (hz4 77 (by omega)).trans hn0
  have hn1 := (hz4 78 (by omega)).trans hn1
  have hn2 := (hz4 79 (by omega)).trans hn2
  have hn3 := (hz4 80 (by omega)).trans hn3
  have hn4 := (hz4 81 (by omega)).trans hn4
  refine lv_aload_n S.1 S.2.1 dX3_init_46 rfl (lv_at hl 0 rfl) ?_
  refine lv_bipush (v := nI 8) S.1 S.2.1 dX3_init_47 (by decide) ?_
  refine o_newa S hG (atype := .boolean) (ty := .boolean) (t0 := 1) (n := 8) (a0 := (8, .inl (fun _ => 0))) (S.2.2.2.2 (.arrayClass .boolean) (by decide +kernel)) rfl rfl (fun C h => by cases h) (cell_Z 8) (by decide) (by decide) (show _ ≤ 6 by omega) (show _ ≤ 25258 by omega) dX3_init_49 (fun ad11 f11 H hg5 hn5 hG => ?_)
  rw [← hg5.1 76 (by omega)] at hl ⊢
  have hc5 : f11 76 = .inr (3, [.int 0, .ref (ad11 77), .ref (ad11 78), .ref (ad11 79), .ref (ad11 80), .ref (ad11 81), .null]) := by rw [hg5.2 76 (by omega), hc5, hg5.1 77 (by omega), hg5.1 78 (by omega), hg5.1 79 (by omega), hg5.1 80 (by omega), hg5.1 81 (by omega)]; rfl
  have hn0 := (hg5.2 77 (by omega)).trans hn0
  have hn1 := (hg5.2 78 (by omega)).trans hn1
  have hn2 := (hg5.2 79 (by omega)).trans hn2
  have hn3 := (hg5.2 80 (by omega)).trans hn3
  have hn4 := (hg5.2 81 (by omega)).trans hn4
  refine o_putF S hG i_X3 tyX3_ok nmX3 (by omega) hc5 rfl 6 (by decide) kf_26 rfl hnm rfl rfl rfl (Nat.le_of_ble_eq_true rfl) dX3_init_51 (fun f12 H locs hz5 hc6 hG => ?_)
  have hn0 := (hz5 77 (by omega)).trans hn0
  have hn1 := (hz5 78 (by omega)).trans hn1
  have hn2 := (hz5 79 (by omega)).trans hn2
  have hn3 := (hz5 80 (by omega)).trans hn3
  have hn4 := (hz5 81 (by omega)).trans hn4
  have hn5 := (hz5 82 (by omega)).trans hn5
  refine lv_aload_n S.1 S.2.1 dX3_init_54 rfl (lv_at hl 0 rfl) ?_
  refine o_get S hG i_X3 (by omega) hc6 rfl 4 (by decide) kf_19 rfl dX3_init_55 ?_
  refine lv_iconst (v := nI 0) S.1 S.2.1 dX3_init_58 (by decide) ?_
  refine lv_iconst (v := nI 1) S.1 S.2.1 dX3_init_59 (by decide) ?_
  refine o_zast S hG (a := 80) (j := 0) (by omega) hn3 (by decide) rfl dX3_init_60 (kk := fun H locs hG => ?_)
  exact ret ad11 _ _ _ _ _ _ _ hG ⟨fun k hk => (hg5.1 k (by omega)).trans ((hg4.1 k (by omega)).trans ((hg3.1 k (by omega)).trans ((hg2.1 k (by omega)).trans ((hg1.1 k (by omega)).trans (hg0.1 k hk))))), fun k hk => (va_up_ne _ _ (by omega)).trans ((hz5 k (by omega)).trans ((hg5.2 k (by omega)).trans ((hz4 k (by omega)).trans ((hg4.2 k (by omega)).trans ((hz3 k (by omega)).trans ((hg3.2 k (by omega)).trans ((hz2 k (by omega)).trans ((hg2.2 k (by omega)).trans ((hz1 k (by omega)).trans ((hg1.2 k (by omega)).trans ((hz0 k (by omega)).trans (hg0.2 k (by omega))))))))))))), (va_up_ne _ _ (by decide)).trans (by rw [hc6]; rfl), (va_up_ne _ _ (by decide)).trans hn0, (va_up_ne _ _ (by decide)).trans hn1, (va_up_ne _ _ (by decide)).trans (hn2.trans rfl), (va_up_self ..).trans (congrArg (eZ G 21) (by funext j; simp only [upd, va_up]; split <;> rfl)), (va_up_ne _ _ (by decide)).trans (hn4.trans rfl), (va_up_ne _ _ (by decide)).trans (hn5.trans rfl)⟩ (show _ ≤ 6 by omega) (show _ ≤ 25258 by omega) dX3_init_61

set_option maxHeartbeats 4000000 in
set_option maxRecDepth 100000 in
theorem c_X2_init (l : Launch) (G : Gx) (ad : Nat → Nat) (s0 : Nat) (f : Nat → va_E) (hc0 : f 0 = .inr (2, [.null, .null, .null, .null, .null])) : mC l yX2_init wsX2_init 3 70 75 25329 [.ref (ad 0)] G 1 ad s0 f 76 (fun ad' f' => ad' 0 = ad 0 ∧ PB G 76 ad' f' 8) := by
  refine ov_mC (cc := cX2_init) (maxL := 2) (by decide) rfl (Nat.le_of_ble_eq_true rfl) ?_
  intro p e s m below meth c av Q S hnm ret hG hNx ls hl
  have S : CallFix p m c cX2_init 2 s av wsX2_init RX2 := S
  have hl : lv_has ls 2 [(0, .ref (ad 0))] := hl
  have i_X2 : ∀ w ∈ u_ws RX2 TX2 5, w ∈ wsX2_init := by decide +kernel
  have kf_10 := S.2.2.2.2 (.fieldLink RX2 10 "OrderedVersions" "present" "LOrderedVersions$Table;") (by decide +kernel)
  have kf_16 := S.2.2.2.2 (.fieldLink RX2 16 "OrderedVersions" "versions" "[LOrderedVersions$Table;") (by decide +kernel)
  have kf_20 := S.2.2.2.2 (.fieldLink RX2 20 "OrderedVersions" "versionTaken" "[Z") (by decide +kernel)
  have kf_26 := S.2.2.2.2 (.fieldLink RX2 26 "OrderedVersions" "cursors" "[LOrderedVersions$Cursor;") (by decide +kernel)
  have kf_30 := S.2.2.2.2 (.fieldLink RX2 30 "OrderedVersions" "cursorTaken" "[Z") (by decide +kernel)
  have i_X1 : ∀ w ∈ u_ws RX1 TX1 3, w ∈ wsX2_init := by decide +kernel
  have i_X0 : ∀ w ∈ u_ws RX0 TX0 3, w ∈ wsX2_init := by decide +kernel
  refine lv_aload_n S.1 S.2.1 dX2_init_0 rfl (lv_at hl 0 rfl) ?_
  refine W.objInit S.1 S.2.1 S.2.2.2.1 (S.2.2.2.2 (.methodLink RX2 1 objectInit) (by decide +kernel)) (S.2.2.2.2 (.instanceMethod objectInit) (by decide +kernel)) (S.2.2.2.2 (.code objectInit ⟨#[0xb1]⟩ 1 none) (by decide +kernel)) rfl (hl.1.trans S.2.2.1.symm) rfl dX2_init_1 (Nat.le_of_ble_eq_true rfl) (Nat.le_of_ble_eq_true rfl) ?_
  refine W.eq (g2 := F0 m 4 ls []) rfl ?_
  refine lv_aload_n S.1 S.2.1 dX2_init_4 rfl (lv_at hl 0 rfl) ?_
  refine o_new S hG (ci := 1) (fs := [.null, .null, .int 0]) i_X1 tyX1_ok (S.2.2.2.2 (.classLink RX2 7 RX1) (by decide +kernel)) (S.2.2.2.2 (.instantiable RX1 3) (by decide +kernel)) (S.2.2.2.2 (.initialized RX1) (by decide +kernel)) rfl (fun j hj => by rcases (show j = 0 ∨ j = 1 ∨ j = 2 by omega) with rfl | rfl | rfl <;> rfl) (show _ ≤ 75 by omega) (show _ ≤ 25329 by omega) dX2_init_5 (fun ad1 f1 H hg1 hn1 hG => ?_)
  rw [← hg1.1 0 (by omega)] at hl ⊢
  refine lv_dup S.1 S.2.1 dX2_init_8 rfl ?_
  refine o_cN S (rest := [.ref (ad1 1), .ref (ad1 0)]) (c_X1_init l G 1 ad1 s0 f1 hn1) ⟨va_cnB 0 S.2.2.2.2 gX2_init_X1_init_n9 rfl rfl rfl hNx.1 (S.2.2.2.2 (.initialized RX1) (by decide +kernel)) (by decide +kernel) ⟨(Nat.le_of_ble_eq_true rfl), (Nat.le_of_ble_eq_true rfl)⟩, rfl, (S.2.2.2.2 (.instanceMethod yX1_init) (by decide +kernel))⟩ hG hNx hl.1 rfl (Nat.le_of_ble_eq_true rfl) dX2_init_9 ⟨(show _ ≤ 75 by omega), (show _ ≤ 25329 by omega)⟩ (fun ad2 f2 H locs hp hG => ?_)
  obtain ⟨ha2, hf2, hT2⟩ := hp
  rw [← ha2 0 (by omega)] at hl ⊢
  rw [← ha2 1 (by omega)]
  have hc2 : f2 0 = .inr (2, [.null, .null, .null, .null, .null]) := by rw [hf2 0 (by omega), hg1.2 0 (by omega)]; exact hc0
  refine o_putF S hG i_X2 tyX2_ok nmX2 (by omega) hc2 rfl 0 (by decide) kf_10 rfl hnm rfl rfl rfl (Nat.le_of_ble_eq_true rfl) dX2_init_12 (fun f3 H locs hz3 hc3 hG => ?_)
  have hT3 := hT2.gr1 hz3 (by omega)
  refine lv_aload_n S.1 S.2.1 dX2_init_15 rfl (lv_at hl 0 rfl) ?_
  refine lv_bipush (v := nI 13) S.1 S.2.1 dX2_init_16 (by decide) ?_
  refine o_newq S hG (n := 13) (t0 := 2) (S.2.2.2.2 (.classLink RX2 7 RX1) (by decide +kernel)) hNx.2.2.2.1 rfl (by decide) (by decide) (show _ ≤ 75 by omega) (show _ ≤ 25329 by omega) dX2_init_18 (fun ad4 f4 H hg4 hn4 hG => ?_)
  rw [← hg4.1 0 (by omega)] at hl ⊢
  have hc4 : f4 0 = .inr (2, [.ref (ad4 1), .null, .null, .null, .null]) := by rw [hg4.2 0 (by omega), hc3, hg4.1 1 (by omega)]; rfl
  have hT4 := hT3.grow hg4 (by omega : 4 ≤ 5)
  refine o_putF S hG i_X2 tyX2_ok nmX2 (by omega) hc4 rfl 1 (by decide) kf_16 rfl hnm rfl rfl rfl (Nat.le_of_ble_eq_true rfl) dX2_init_21 (fun f5 H locs hz5 hc5 hG => ?_)
  have hT5 := hT4.gr1 hz5 (by omega)
  have hn5 := (hz5 4 (by omega)).trans hn4
  refine lv_aload_n S.1 S.2.1 dX2_init_24 rfl (lv_at hl 0 rfl) ?_
  refine lv_aload_n S.1 S.2.1 dX2_init_25 rfl (lv_at hl 0 rfl) ?_
  refine o_get S hG i_X2 (by omega) hc5 rfl 1 (by decide) kf_16 rfl dX2_init_26 ?_
  refine o_alen S hG 2 (by omega) hn5 rfl dX2_init_29 ?_
  refine o_newa S hG (atype := .boolean) (ty := .boolean) (t0 := 1) (n := 13) (a0 := (13, .inl (fun _ => 0))) (S.2.2.2.2 (.arrayClass .boolean) (by decide +kernel)) rfl rfl (fun C h => by cases h) (cell_Z 13) (by decide) (by decide) (show _ ≤ 75 by omega) (show _ ≤ 25329 by omega) dX2_init_30 (fun ad6 f6 H hg6 hn6 hG => ?_)
  rw [← hg6.1 0 (by omega)] at hl ⊢
  have hc6 : f6 0 = .inr (2, [.ref (ad6 1), .ref (ad6 4), .null, .null, .null]) := by rw [hg6.2 0 (by omega), hc5, hg6.1 1 (by omega), hg6.1 4 (by omega)]; rfl
  have hT6 := hT5.grow hg6 (by omega : 5 ≤ 6)
  have hn46 := (hg6.2 4 (by omega)).trans hn5
  refine o_putF S hG i_X2 tyX2_ok nmX2 (by omega) hc6 rfl 2 (by decide) kf_20 rfl hnm rfl rfl rfl (Nat.le_of_ble_eq_true rfl) dX2_init_32 (fun f7 H locs hz7 hc7 hG => ?_)
  have hT7 := hT6.gr1 hz7 (by omega)
  have hn47 := (hz7 4 (by omega)).trans hn46
  have hn57 := (hz7 5 (by omega)).trans hn6
  refine lv_aload_n S.1 S.2.1 dX2_init_35 rfl (lv_at hl 0 rfl) ?_
  refine o_get S hG i_X2 (by omega) hc7 rfl 1 (by decide) kf_16 rfl dX2_init_36 ?_
  refine lv_iconst (v := nI 0) S.1 S.2.1 dX2_init_39 (by decide) ?_
  refine lv_aload_n S.1 S.2.1 dX2_init_40 rfl (lv_at hl 0 rfl) ?_
  refine o_get S hG i_X2 (by omega) hc7 rfl 0 (by decide) kf_10 rfl dX2_init_41 ?_
  refine o_ast S hG (a := 4) (b := 1) (j := 0) (t0 := 2) (by omega) (by omega) hn47 rfl hT7.1 rfl (by decide) (by decide) dX2_init_44 (fun f8 H locs hz8 hn8 hG => ?_)
  have hT8 := hT7.gr1 hz8 (by omega)
  have hc8 := (hz8 0 (by omega)).trans hc7
  have hn58 := (hz8 5 (by omega)).trans hn57
  refine lv_aload_n S.1 S.2.1 dX2_init_45 rfl (lv_at hl 0 rfl) ?_
  refine o_get S hG i_X2 (by omega) hc8 rfl 2 (by decide) kf_20 rfl dX2_init_46 ?_
  refine lv_iconst (v := nI 0) S.1 S.2.1 dX2_init_49 (by decide) ?_
  refine lv_iconst (v := nI 1) S.1 S.2.1 dX2_init_50 (by decide) ?_
  refine o_zast S hG (a := 5) (j := 0) (by omega) hn58 (by decide) rfl dX2_init_51 (kk := fun H locs hG => ?_)
  obtain ⟨f9, e9, hG⟩ := ov_name hG
  have hPA : PA G 6 ad6 f9 1 := by
    have hT9 := hT8.ne e9 (by decide) (by decide) (by decide)
    refine ⟨by rw [e9, va_up_ne _ _ (by decide), hc8]; rfl, ⟨_, by rw [e9, va_up_ne _ _ (by decide), hn8], fun j hj => ?_⟩, by rw [e9, va_up_self], fun j hj => ?_⟩
    · obtain rfl : j = 0 := by omega
      exact va_up_self ..
    · obtain rfl : j = 0 := by omega
      exact hT9
  refine lv_iconst (v := nI 1) S.1 S.2.1 dX2_init_52 (by decide) ?_
  refine lv_istore_n (lv' := [(1, .int (nI 1)), (0, .ref (ad6 0))]) S.1 S.2.1 dX2_init_53 rfl hl (by decide) rfl (fun ls hl => ?_)
  have h00 : ad6 0 = ad 0 := by rw [hg6.1 0 (by omega), hg4.1 0 (by omega), ha2 0 (by omega), hg1.1 0 (by omega)]
  have L104 : ∀ (d9 i : Nat) (ad5 : Nat → Nat) (f5 : Nat → va_E) (H : Heap) (locs : List Loc), i ≤ 8 → 8 - i < d9 → ad5 0 = ad 0 → PB G (44 + 4 * i) ad5 f5 i → ov_dy G (44 + 4 * i) ad5 s0 s f5 H locs → ∀ ls : Array Slot, lv_has ls 2 [(0, .ref (ad5 0)), (1, .int (nI i))] → W p l e (ov_rm 3 70 75 25329) s m av below meth c H locs (43 + 4 * i) (15681 + 1206 * i) Q (F0 m 104 ls []) := by
    intro d9
    induction d9 with
    | zero => intro i ad5 f5 H locs _ h9; exact absurd h9 (Nat.not_lt_zero _)
    | succ d9 ih =>
      intro i ad5 f5 H locs hi h9 h00 hPB hG ls hl
      obtain ⟨hb0, hb4, hb5, hbT, ⟨g42, hb42, eb42⟩, hb43, hbT2, hbC⟩ := id hPB
      refine lv_iload_n S.1 S.2.1 dX2_init_104 rfl (lv_at hl 1 rfl) ?_
      refine lv_aload_n S.1 S.2.1 dX2_init_105 rfl (lv_at hl 0 rfl) ?_
      refine o_get S hG i_X2 (by omega) hb0 rfl 3 (by decide) kf_26 rfl dX2_init_106 ?_
      refine o_alen S hG 3 (by omega) hb42 rfl dX2_init_109 ?_
      refine n_ge S (a := i) (b := 8) (tgt := 132) dX2_init_110 (by decide) (by omega) (by decide) (fun c_110 => ?_) (fun c_110 => ?_)
      · obtain rfl : i = 8 := by omega
        exact ret ad5 f5 _ _ _ _ _ _ hG ⟨h00, hPB⟩ (show _ ≤ 75 by omega) (show _ ≤ 25329 by omega) dX2_init_132
      · skip
        refine lv_aload_n S.1 S.2.1 dX2_init_113 rfl (lv_at hl 0 rfl) ?_
        refine o_get S hG i_X2 (by omega) hb0 rfl 3 (by decide) kf_26 rfl dX2_init_114 ?_
        refine lv_iload_n S.1 S.2.1 dX2_init_117 rfl (lv_at hl 1 rfl) ?_
        refine o_new S hG (ci := 0) (fs := [.null, .int 0, .int 0]) i_X0 tyX0_ok (S.2.2.2.2 (.classLink RX2 24 RX0) (by decide +kernel)) (S.2.2.2.2 (.instantiable RX0 3) (by decide +kernel)) (S.2.2.2.2 (.initialized RX0) (by decide +kernel)) rfl (fun j hj => by rcases (show j = 0 ∨ j = 1 ∨ j = 2 by omega) with rfl | rfl | rfl <;> rfl) (show _ ≤ 75 by omega) (show _ ≤ 25329 by omega) dX2_init_118 (fun ad1 f1 H hg1 hn1 hG => ?_)
        rw [← hg1.1 0 (by omega)] at hl
        rw [← hg1.1 42 (by omega)]
        have hPB1 := hPB.grow hg1 (by omega) (fun q hq => by omega) (Nat.le_succ _)
        refine lv_dup S.1 S.2.1 dX2_init_121 rfl ?_
        refine o_cN S (rest := [.ref (ad1 (44 + 4 * i)), .int (nI i), .ref (ad1 42)]) (c_X0_init l G (44 + 4 * i) ad1 s0 f1 hn1) ⟨va_cnB 0 S.2.2.2.2 gX2_init_X0_init_n33 rfl rfl rfl hNx.2.1 (S.2.2.2.2 (.initialized RX0) (by decide +kernel)) (by decide +kernel) ⟨(Nat.le_of_ble_eq_true rfl), (Nat.le_of_ble_eq_true rfl)⟩, rfl, (S.2.2.2.2 (.instanceMethod yX0_init) (by decide +kernel))⟩ hG hNx hl.1 rfl (Nat.le_of_ble_eq_true rfl) dX2_init_122 ⟨(show _ ≤ 75 by omega), (show _ ≤ 25329 by omega)⟩ (fun ad2 f2 H locs hp hG => ?_)
        obtain ⟨ha2, hf2, hT2, hC2⟩ := hp
        have hPB2 : PB G (44 + 4 * i + 4) ad2 f2 i := hPB.grow ⟨fun k hk => (ha2 k (by omega)).trans (hg1.1 k hk), fun k hk => (hf2 k hk).trans (hg1.2 k hk)⟩ (by omega) (fun q hq => by omega) (by omega)
        rw [← ha2 0 (by omega)] at hl
        rw [← ha2 42 (by omega), ← ha2 (44 + 4 * i) (by omega)]
        obtain ⟨g9, hb9, eb9⟩ := hPB2.2.2.2.2.1
        refine o_ast S hG (a := 42) (b := 44 + 4 * i) (j := i) (t0 := 3) (by omega) (by omega) hb9 rfl hC2 rfl c_110 (by decide) dX2_init_125 (fun f3 H locs hz3 hn3 hG => ?_)
        have hPB3 := hPB2.add hb9 c_110 hz3 hn3 (by rw [show 45 + 4 * i = 44 + 4 * i + 1 by omega]; exact hT2) hC2
        refine lv_iinc (v := nI (i + 1)) (lv' := [(1, .int (nI (i + 1))), (0, .ref (ad2 0))]) S.1 S.2.1 dX2_init_126 hl (k := 1) rfl (nI_add i 1) (by decide) rfl (fun ls hl => ?_)
        refine lv_goto (tgt := 104) S.1 S.2.1 dX2_init_129 (by decide) ?_
        refine W.widen (k := 43 + 4 * (i + 1)) (n := 15681 + 1206 * (i + 1)) (by omega) (by omega) ?_
        have h00 : ad2 0 = ad 0 := by rw [ha2 0 (by omega), hg1.1 0 (by omega)]; exact h00
        exact ih (i + 1) ad2 f3 _ _ (by omega) (by omega) h00 hPB3 hG ls (lv_sub hl [1, 0] rfl)
  have L54 : ∀ (d9 i : Nat) (ad5 : Nat → Nat) (f5 : Nat → va_E) (H : Heap) (locs : List Loc), 1 ≤ i → i ≤ 13 → 13 - i < d9 → ad5 0 = ad 0 → PA G (3 + 3 * i) ad5 f5 i → ov_dy G (3 + 3 * i) ad5 s0 s f5 H locs → ∀ ls : Array Slot, lv_has ls 2 [(0, .ref (ad5 0)), (1, .int (nI i))] → W p l e (ov_rm 3 70 75 25329) s m av below meth c H locs (2 + 3 * i) (26 + 1203 * i) Q (F0 m 54 ls []) := by
    intro d9
    induction d9 with
    | zero => intro i ad5 f5 H locs _ _ h9; exact absurd h9 (Nat.not_lt_zero _)
    | succ d9 ih =>
      intro i ad5 f5 H locs hi1 hi h9 h00 hPA hG ls hl
      obtain ⟨hb0, ⟨g4, hb4, eb4⟩, hb5, hbT⟩ := id hPA
      refine lv_iload_n S.1 S.2.1 dX2_init_54 rfl (lv_at hl 1 rfl) ?_
      refine lv_aload_n S.1 S.2.1 dX2_init_55 rfl (lv_at hl 0 rfl) ?_
      refine o_get S hG i_X2 (by omega) hb0 rfl 1 (by decide) kf_16 rfl dX2_init_56 ?_
      refine o_alen S hG 2 (by omega) hb4 rfl dX2_init_59 ?_
      refine n_ge S (a := i) (b := 13) (tgt := 82) dX2_init_60 (by decide) (by omega) (by decide) (fun c_60 => ?_) (fun c_60 => ?_)
      · obtain rfl : i = 13 := by omega
        refine lv_aload_n S.1 S.2.1 dX2_init_82 rfl (lv_at hl 0 rfl) ?_
        refine lv_bipush (v := nI 8) S.1 S.2.1 dX2_init_83 (by decide) ?_
        refine o_newq S hG (n := 8) (t0 := 3) (S.2.2.2.2 (.classLink RX2 24 RX0) (by decide +kernel)) hNx.2.2.2.2 rfl (by decide) (by decide) (show _ ≤ 75 by omega) (show _ ≤ 25329 by omega) dX2_init_85 (fun ad1 f1 H hg1 hn1 hG => ?_)
        rw [← hg1.1 0 (by omega)] at hl ⊢
        have hPA1 := hPA.grow hg1 (by omega) (by omega : 42 ≤ 43)
        refine o_putF S hG i_X2 tyX2_ok nmX2 (by omega) hPA1.1 rfl 3 (by decide) kf_26 rfl hnm rfl rfl rfl (Nat.le_of_ble_eq_true rfl) dX2_init_88 (fun f2 H locs hz2 hc2 hG => ?_)
        have hn2 := (hz2 42 (by omega)).trans hn1
        refine lv_aload_n S.1 S.2.1 dX2_init_91 rfl (lv_at hl 0 rfl) ?_
        refine lv_aload_n S.1 S.2.1 dX2_init_92 rfl (lv_at hl 0 rfl) ?_
        refine o_get S hG i_X2 (by omega) hc2 rfl 3 (by decide) kf_26 rfl dX2_init_93 ?_
        refine o_alen S hG 3 (by omega) hn2 rfl dX2_init_96 ?_
        refine o_newa S hG (atype := .boolean) (ty := .boolean) (t0 := 1) (n := 8) (a0 := (8, .inl (fun _ => 0))) (S.2.2.2.2 (.arrayClass .boolean) (by decide +kernel)) rfl rfl (fun C h => by cases h) (cell_Z 8) (by decide) (by decide) (show _ ≤ 75 by omega) (show _ ≤ 25329 by omega) dX2_init_97 (fun ad3 f3 H hg3 hn3 hG => ?_)
        rw [← hg3.1 0 (by omega)] at hl ⊢
        have hc3 : f3 0 = .inr (2, [.ref (ad3 1), .ref (ad3 4), .ref (ad3 5), .ref (ad3 42), .null]) := by rw [hg3.2 0 (by omega), hc2, hg3.1 1 (by omega), hg3.1 4 (by omega), hg3.1 5 (by omega), hg3.1 42 (by omega)]; rfl
        refine o_putF S hG i_X2 tyX2_ok nmX2 (by omega) hc3 rfl 4 (by decide) kf_30 rfl hnm rfl rfl rfl (Nat.le_of_ble_eq_true rfl) dX2_init_99 (fun f4 H locs hz4 hc4 hG => ?_)
        refine lv_iconst (v := nI 0) S.1 S.2.1 dX2_init_102 (by decide) ?_
        refine lv_istore_n (lv' := [(1, .int (nI 0)), (0, .ref (ad3 0))]) S.1 S.2.1 dX2_init_103 rfl hl (by decide) rfl (fun ls hl => ?_)
        refine W.widen (k := 43) (n := 15681) (by omega) (by omega) ?_
        obtain ⟨-, ⟨g9, hx4, ex4⟩, hx5, hxT⟩ := hPA1
        refine L104 _ 0 ad3 f4 _ _ (by omega) (Nat.lt_succ_self _) (by rw [hg3.1 0 (by omega), hg1.1 0 (by omega)]; exact h00) ?_ hG ls (lv_sub hl [1, 0] rfl)
        refine ⟨by rw [hc4]; rfl, ⟨g9, ?_, fun j hj => ?_⟩, ?_, fun j hj => ?_, ⟨(fun _ => none), ?_, fun q hq => absurd hq (Nat.not_lt_zero _)⟩, (hz4 43 (by omega)).trans hn3, fun q hq => absurd hq (Nat.not_lt_zero _), fun q hq => absurd hq (Nat.not_lt_zero _)⟩
        · rw [hz4 4 (by omega), hg3.2 4 (by omega), hz2 4 (by omega)]; exact hx4
        · rw [hg3.1 _ (hxT j hj).lt0]; exact ex4 j hj
        · rw [hz4 5 (by omega), hg3.2 5 (by omega), hz2 5 (by omega)]; exact hx5
        · exact (((hxT j hj).gr1 hz2 (by have := tc_v (show j ≤ 12 by omega); omega)).grow hg3 (by omega : 43 ≤ 44)).gr1 hz4 (by have := tc_v (show j ≤ 12 by omega); omega)
        · exact (hz4 42 (by omega)).trans ((hg3.2 42 (by omega)).trans hn2)
      · skip
        have hti : tc i = 3 + 3 * i := by have := tc_v (show i ≤ 12 by omega); omega
        refine lv_aload_n S.1 S.2.1 dX2_init_63 rfl (lv_at hl 0 rfl) ?_
        refine o_get S hG i_X2 (by omega) hb0 rfl 1 (by decide) kf_16 rfl dX2_init_64 ?_
        refine lv_iload_n S.1 S.2.1 dX2_init_67 rfl (lv_at hl 1 rfl) ?_
        refine o_new S hG (ci := 1) (fs := [.null, .null, .int 0]) i_X1 tyX1_ok (S.2.2.2.2 (.classLink RX2 7 RX1) (by decide +kernel)) (S.2.2.2.2 (.instantiable RX1 3) (by decide +kernel)) (S.2.2.2.2 (.initialized RX1) (by decide +kernel)) rfl (fun j hj => by rcases (show j = 0 ∨ j = 1 ∨ j = 2 by omega) with rfl | rfl | rfl <;> rfl) (show _ ≤ 75 by omega) (show _ ≤ 25329 by omega) dX2_init_68 (fun ad1 f1 H hg1 hn1 hG => ?_)
        rw [← hg1.1 0 (by omega)] at hl
        rw [← hg1.1 4 (by omega)]
        refine lv_dup S.1 S.2.1 dX2_init_71 rfl ?_
        refine o_cN S (rest := [.ref (ad1 (3 + 3 * i)), .int (nI i), .ref (ad1 4)]) (c_X1_init l G (3 + 3 * i) ad1 s0 f1 hn1) ⟨va_cnB 0 S.2.2.2.2 gX2_init_X1_init_n9 rfl rfl rfl hNx.1 (S.2.2.2.2 (.initialized RX1) (by decide +kernel)) (by decide +kernel) ⟨(Nat.le_of_ble_eq_true rfl), (Nat.le_of_ble_eq_true rfl)⟩, rfl, (S.2.2.2.2 (.instanceMethod yX1_init) (by decide +kernel))⟩ hG hNx hl.1 rfl (Nat.le_of_ble_eq_true rfl) dX2_init_72 ⟨(show _ ≤ 75 by omega), (show _ ≤ 25329 by omega)⟩ (fun ad2 f2 H locs hp hG => ?_)
        obtain ⟨ha2, hf2, hT2⟩ := hp
        have hPA2 : PA G (3 + 3 * i + 3) ad2 f2 i := hPA.grow ⟨fun k hk => (ha2 k (by omega)).trans (hg1.1 k hk), fun k hk => (hf2 k hk).trans (hg1.2 k hk)⟩ (by omega) (by omega)
        rw [← ha2 0 (by omega)] at hl
        rw [← ha2 4 (by omega), ← ha2 (3 + 3 * i) (by omega)]
        obtain ⟨g9, hb9, eb9⟩ := hPA2.2.1
        refine o_ast S hG (a := 4) (b := 3 + 3 * i) (j := i) (t0 := 2) (by omega) (by omega) hb9 rfl hT2.1 rfl c_60 (by decide) dX2_init_75 (fun f3 H locs hz3 hn3 hG => ?_)
        have hPA3 := hPA2.add hb9 hi1 (by omega) hz3 (by rw [hti]; exact hn3) (by rw [hti]; exact hT2)
        refine lv_iinc (v := nI (i + 1)) (lv' := [(1, .int (nI (i + 1))), (0, .ref (ad2 0))]) S.1 S.2.1 dX2_init_76 hl (k := 1) rfl (nI_add i 1) (by decide) rfl (fun ls hl => ?_)
        refine lv_goto (tgt := 54) S.1 S.2.1 dX2_init_79 (by decide) ?_
        refine W.widen (k := 2 + 3 * (i + 1)) (n := 26 + 1203 * (i + 1)) (by omega) (by omega) ?_
        have h00 : ad2 0 = ad 0 := by rw [ha2 0 (by omega), hg1.1 0 (by omega)]; exact h00
        exact ih (i + 1) ad2 f3 _ _ (by omega) (by omega) (by omega) h00 hPA3 hG ls (lv_sub hl [1, 0] rfl)
  refine W.widen (k := 2 + 3 * 1) (n := 26 + 1203 * 1) (by omega) (by omega) ?_
  exact L54 _ 1 ad6 f9 _ _ (by decide) (by decide) (Nat.lt_succ_self _) h00 hPA hG ls (lv_sub hl [1, 0] rfl)

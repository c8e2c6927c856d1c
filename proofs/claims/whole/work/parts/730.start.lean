section OVS
theorem ov_arr {s : State} {args : Array Value} {ty : FieldType} (h : (Cond.arrayClass ty).before args s = true) (hn : ∀ C, ty ≠ .object C) : ∃ cA, ArrOfT s cA ty ∧ va_RA s cA ty := by
  obtain ⟨cA, k, comp, h1, h2, h3⟩ := Cond.arrayClass_spec h
  refine ⟨cA, fun n z => ⟨fun k h => (by cases h), k, h2, comp, h3⟩, ?_⟩
  cases ty with
  | object C => exact absurd rfl (hn C)
  | _ => exact h1
theorem ov_arrO {s : State} {C : String} (h : va_AO C s) : ∃ cA, ArrOfT s cA (.object C) ∧ va_RA s cA (.object C) := by
  obtain ⟨comp, c, k, h1, h2, h3, h4, h5⟩ := Cond.arrayOver_spec h
  exact ⟨c, fun n z => ⟨fun k h => (by cases h), k, h3, comp, h4⟩, k, comp, h3, h4, h1, h5⟩
theorem MB.grow {G : Gx} {ad ad1 : Nat → Nat} {f f1 : Nat → va_E} {cd : Nat} {K V : Nat → Int32} {sz : Nat → Nat} {th : Nat → Bool} {pl : Nat → Int} {dn : Nat → Bool} (h : MB G ad f cd K V sz th pl dn) (hg : ov_gr 83 ad ad1 f f1) : MB G ad1 f1 cd K V sz th pl dn := by
  obtain ⟨a1, a2, a3, a4, a5, a6, a7⟩ := h
  refine ⟨?_, (hg.2 77 (by omega)).trans a2, (hg.2 78 (by omega)).trans a3, (hg.2 79 (by omega)).trans a4, (hg.2 80 (by omega)).trans a5, (hg.2 81 (by omega)).trans a6, (hg.2 82 (by omega)).trans a7⟩
  rw [hg.2 76 (by omega), a1, hg.1 77 (by omega), hg.1 78 (by omega), hg.1 79 (by omega), hg.1 80 (by omega), hg.1 81 (by omega), hg.1 82 (by omega)]
theorem RLx.start : RLx (va_up (fun _ => false) 0 true) (fun _ => 0) (fun _ _ => 0) (fun _ _ => 0) (fun _ => 0) (fun _ => false) (fun _ => 0) (fun _ => 0) (fun _ => 0) (fun _ => 0) (fun _ => false) := by
  refine ⟨rfl, fun j _ => Nat.zero_le _, fun j _ => fun i z _ h => absurd h (Nat.not_lt_zero _), fun j _ _ => rfl, fun j _ _ => ⟨rfl, fun i h => absurd h (Nat.not_lt_zero _)⟩, fun q _ => ⟨show (-1 : Int) ≤ 0 by decide, show (0 : Int) ≤ ((0 : Nat) : Int) by decide⟩, fun q _ h => ?_⟩
  rw [va_up_ne _ _ (by omega)] at h
  cases h
set_option maxHeartbeats 4000000 in
set_option maxRecDepth 100000 in
/-- the world at the law's entry: nothing yet -/
theorem ov_begin {p : Program} {s : State} {m : MethodId} {meth : Method} {c : Code} {b L : Nat} {xs : Nat → Int32} (C0 : lw_At p s m meth c b L xs) : ∃ G : Gx, ov_dy G 0 (fun _ => 0) s.heap.size s (fun _ => .inr (0, [])) s.heap [] ∧ ov_Nx s := by
  obtain ⟨hx, hb, hr, hml, hown, hts, hXs, hbl, hlocks, hgv⟩ := id C0
  have hgn := flat_of_before _ hgv
  obtain ⟨c0, iS0, hK0⟩ := u_known (C := RX0) (T := TX0) (N := 3) (n := 3) hts (by decide +kernel) (hts (.instantiable RX0 3) (by decide +kernel))
  obtain ⟨c1, iS1, hK1⟩ := u_known (C := RX1) (T := TX1) (N := 3) (n := 3) hts (by decide +kernel) (hts (.instantiable RX1 3) (by decide +kernel))
  obtain ⟨c2, iS2, hK2⟩ := u_known (C := RX2) (T := TX2) (N := 5) (n := 5) hts (by decide +kernel) (hts (.instantiable RX2 5) (by decide +kernel))
  obtain ⟨c3, iS3, hK3⟩ := u_known (C := RX3) (T := TX3) (N := 7) (n := 7) hts (by decide +kernel) (hts (.instantiable RX3 7) (by decide +kernel))
  have hNx : ov_Nx s := ⟨va_Nw.of rfl (hts (.methodLinkNest RX2 9 yX1_init "OrderedVersions") (by decide +kernel)), va_Nw.of rfl (hts (.methodLinkNest RX2 33 yX0_init "OrderedVersions") (by decide +kernel)), va_Nw.of rfl (hts (.methodLinkNest RX0 9 yX1_init "OrderedVersions") (by decide +kernel)), va_AO.of (hts (.arrayOver (.object RX1)) (by decide +kernel)), va_AO.of (hts (.arrayOver (.object RX0)) (by decide +kernel))⟩
  obtain ⟨a0, hA0⟩ := ov_arr (ty := .int) (hts (.arrayClass .int) (by decide +kernel)) (fun C h => by cases h)
  obtain ⟨a1, hA1⟩ := ov_arr (ty := .boolean) (hts (.arrayClass .boolean) (by decide +kernel)) (fun C h => by cases h)
  obtain ⟨a2, hA2⟩ := ov_arrO hNx.2.2.2.1
  obtain ⟨a3, hA3⟩ := ov_arrO hNx.2.2.2.2
  obtain ⟨a4, hA4⟩ := ov_arr (ty := .long) (hts (.arrayClass .long) (by decide +kernel)) (fun C h => by cases h)
  obtain ⟨G, hK⟩ : ∃ G : Gx, va_K G.1 vwCl (ov_ty G) s := by
    refine ⟨((fun k => if k = 0 then c0 else if k = 1 then c1 else if k = 2 then c2 else c3, fun k => if k = 0 then iS0 else if k = 1 then iS1 else if k = 2 then iS2 else iS3), fun k => if k = 0 then a0 else if k = 1 then a1 else if k = 2 then a2 else if k = 3 then a3 else a4), fun k q hq => ?_, fun k q hq => ?_⟩
    · match k, hq with
      | 0, hq => cases hq; exact hK0
      | 1, hq => cases hq; exact hK1
      | 2, hq => cases hq; exact hK2
      | 3, hq => cases hq; exact hK3
      | k + 4, hq => simp [vwCl] at hq
    · match k, hq with
      | 0, hq => cases hq; exact hA0
      | 1, hq => cases hq; exact hA1
      | 2, hq => cases hq; exact hA2
      | 3, hq => cases hq; exact hA3
      | 4, hq => cases hq; exact hA4
      | k + 5, hq => simp [ov_ty] at hq
  have hNt : ov_Nt s := by
    refine ⟨fun q hq => va_tabs rfl rfl (hts (.castable q.1 q.2) ((by decide +kernel : ∀ q ∈ ov_NC, Cond.castable q.1 q.2 ∈ lw_tbl) q hq)), fun x hx => va_tabs rfl rfl (hts (.declares x) ((by decide +kernel : ∀ x ∈ ov_ND, Cond.declares x ∈ lw_tbl) x hx)), va_Nc.of (hgn (.not (.castable xUO xIO)) (by decide +kernel)), va_Nc.of (hgn (.not (.castable xNS xIO)) (by decide +kernel)), va_Nc.of (hgn (.not (.castable xIA xIO)) (by decide +kernel))⟩
  have hZ : ov_Z s.heap.size s s.heap :=
    ⟨vx_Zqof (A := ov_A s.heap.size) (hts (.laysStatic Bundle.tN "UNASSIGNED_STACK" Bundle.steD) (by decide +kernel)) (hts (.initialized Bundle.tN) (by decide +kernel)) (hgn (.isRef (.static Bundle.tN "UNASSIGNED_STACK" Bundle.steD)) (by decide +kernel)) (fun a ha => Nat.not_le.mpr ha), vx_Zqof (A := ov_A s.heap.size) (hts (.laysStatic Bundle.tN "SUPPRESSED_SENTINEL" Bundle.listD) (by decide +kernel)) (hts (.initialized Bundle.tN) (by decide +kernel)) (hgn (.isRef (.static Bundle.tN "SUPPRESSED_SENTINEL" Bundle.listD)) (by decide +kernel)) (fun a ha => Nat.not_le.mpr ha), hNt⟩
  exact ⟨G, ⟨fun k q h => by simp [ov_wl] at h, ⟨fun i j p q h => by simp [ov_wl] at h, fun k q h => by simp [ov_wl] at h⟩, va_S.rf, hK, hZ, Nat.le_refl _⟩, hNx⟩
set_option maxHeartbeats 4000000 in
set_option maxRecDepth 100000 in
/-- THE LAW, from its entry -/
theorem whole_start {p : Program} {e : Env} {s : State} {m : MethodId} {below : List Frame} {meth : Method} {c : Code} (l : Launch) {b L : Nat} {xs : Nat → Int32} (hst : l.stackTraces = false) (hL : L ≤ 384) (C0 : lw_At p s m meth c b L xs) : W p l e room_1 s m #[Value.ref b] below meth c s.heap [] 0 0 (lw_Z below #[Value.ref b] s) (entryFrame m ([Value.ref b] : List Value).toArray 8) := by
  obtain ⟨hx, hb, hr, hml, hown, hts, hXs, hbl, hlocks, hgv⟩ := id C0
  obtain ⟨G, hG, hNx⟩ := ov_begin C0
  have S : CallFix p m c cL_law 8 s #[Value.ref b] wsL_law RL := ⟨hx, hb, hml, hown, fun w h => hts w (wsL_law_in w h)⟩
  have i_X2 : ∀ w ∈ u_ws RX2 TX2 5, w ∈ wsL_law := by decide +kernel
  have i_X3 : ∀ w ∈ u_ws RX3 TX3 7, w ∈ wsL_law := by decide +kernel
  have hl := lv_entry ([.ref b]) (n := 8) (Nat.le_of_ble_eq_true rfl)
  rw [lg_entry_eq]
  generalize (lg_sl ([.ref b]) ++ List.replicate (8 - (lg_sl ([.ref b])).length) Slot.unset).toArray = ls at hl ⊢
  have hl : lv_has ls 8 [(0, .ref b)] := hl
  refine o_new S hG (ci := 2) (fs := [.null, .null, .null, .null, .null]) i_X2 tyX2_ok (S.2.2.2.2 (.classLink RL 8 RX2) (by decide +kernel)) (S.2.2.2.2 (.instantiable RX2 5) (by decide +kernel)) (S.2.2.2.2 (.initialized RX2) (by decide +kernel)) rfl (fun j hj => by rcases (show j = 0 ∨ j = 1 ∨ j = 2 ∨ j = 3 ∨ j = 4 by omega) with rfl | rfl | rfl | rfl | rfl <;> rfl) (show _ ≤ 600128 by omega) (show _ ≤ 7301098 by omega) dL_law_0 (fun ad1 f1 H hg1 hn1 hG => ?_)
  refine lv_dup S.1 S.2.1 dL_law_3 rfl ?_
  refine o_cI S (rest := [.ref (ad1 0)]) (c_X2_init l G ad1 s.heap.size f1 hn1) (cwI 0 S.2.2.2.2 gL_law_X2_init rfl rfl rfl (S.2.2.2.2 (.initialized RX2) (by decide +kernel)) (S.2.2.2.2 (.methodLink RL 88 yX2_init) (by decide +kernel)) (S.2.2.2.2 (.instanceMethod yX2_init) (by decide +kernel)) rfl (by decide +kernel) ⟨(Nat.le_of_ble_eq_true rfl), (Nat.le_of_ble_eq_true rfl)⟩) hG hNx hl.1 rfl (Nat.le_of_ble_eq_true rfl) dL_law_4 ⟨show _ ≤ 600128 by omega, show _ ≤ 7301098 by omega⟩ (fun ad2 f2 H locs hp hG => ?_)
  obtain ⟨ha2, hPB⟩ := hp
  rw [← ha2]
  refine lv_astore_n (lv' := [(1, .ref (ad2 0)), (0, .ref b)]) S.1 S.2.1 dL_law_7 rfl hl (by decide) rfl (fun ls hl => ?_)
  refine o_new S hG (ci := 3) (fs := [.int 0, .null, .null, .null, .null, .null, .null]) i_X3 tyX3_ok (S.2.2.2.2 (.classLink RL 89 RX3) (by decide +kernel)) (S.2.2.2.2 (.instantiable RX3 7) (by decide +kernel)) (S.2.2.2.2 (.initialized RX3) (by decide +kernel)) rfl (fun j hj => by rcases (show j = 0 ∨ j = 1 ∨ j = 2 ∨ j = 3 ∨ j = 4 ∨ j = 5 ∨ j = 6 by omega) with rfl | rfl | rfl | rfl | rfl | rfl | rfl <;> rfl) (show _ ≤ 600128 by omega) (show _ ≤ 7301098 by omega) dL_law_8 (fun ad3 f3 H hg3 hn3 hG => ?_)
  rw [← hg3.1 0 (by omega)] at hl
  refine lv_dup S.1 S.2.1 dL_law_11 rfl ?_
  refine o_cI S (rest := [.ref (ad3 76)]) (c_X3_init l G ad3 s.heap.size f3 hn3) (cwI 0 S.2.2.2.2 gL_law_X3_init rfl rfl rfl (S.2.2.2.2 (.initialized RX3) (by decide +kernel)) (S.2.2.2.2 (.methodLink RL 91 yX3_init) (by decide +kernel)) (S.2.2.2.2 (.instanceMethod yX3_init) (by decide +kernel)) rfl (by decide +kernel) ⟨(Nat.le_of_ble_eq_true rfl), (Nat.le_of_ble_eq_true rfl)⟩) hG hNx hl.1 rfl (Nat.le_of_ble_eq_true rfl) dL_law_12 ⟨show _ ≤ 600128 by omega, show _ ≤ 7301098 by omega⟩ (fun ad4 f4 H locs hp hG => ?_)
  obtain ⟨ha4, hf4, hMB⟩ := hp
  rw [← ha4 76 (by omega)]
  rw [← ha4 0 (by omega)] at hl
  refine lv_astore_n (lv' := [(2, .ref (ad4 76)), (1, .ref (ad4 0)), (0, .ref b)]) S.1 S.2.1 dL_law_15 rfl hl (by decide) rfl (fun ls hl => ?_)
  refine lv_iconst (v := nI 1) S.1 S.2.1 dL_law_16 (by decide) ?_
  refine o_newa S hG (atype := .long) (ty := .long) (t0 := 4) (n := 1) (a0 := (1, .inr (.inl (fun _ => 0)))) (S.2.2.2.2 (.arrayClass .long) (by decide +kernel)) rfl rfl (fun C h => by cases h) (cell_J 1) (by decide) (by decide) (show _ ≤ 600128 by omega) (show _ ≤ 7301098 by omega) dL_law_17 (fun ad5 f5 H hg5 hn5 hG => ?_)
  rw [← hg5.1 0 (by omega), ← hg5.1 76 (by omega)] at hl
  refine lv_astore_n (lv' := [(3, .ref (ad5 83)), (2, .ref (ad5 76)), (1, .ref (ad5 0)), (0, .ref b)]) S.1 S.2.1 dL_law_19 rfl hl (by decide) rfl (fun ls hl => ?_)
  refine lv_iconst (v := nI 0) S.1 S.2.1 dL_law_20 (by decide) ?_
  refine lv_istore (lv' := [(4, .int (nI 0)), (3, .ref (ad5 83)), (2, .ref (ad5 76)), (1, .ref (ad5 0)), (0, .ref b)]) S.1 S.2.1 dL_law_21 hl (by decide) rfl (fun ls hl => ?_)
  have hB3 : PB G 76 ad3 f3 8 := hPB.grow hg3 (by omega) (fun q hq => by omega) (Nat.le_refl _)
  have hB4 : PB G 76 ad4 f4 8 := hB3.grow ⟨fun k hk => ha4 k (by omega), hf4⟩ (by omega) (fun q hq => by omega) (Nat.le_refl _)
  have hB5 : PB G 84 ad5 f5 8 := hB4.grow ⟨fun k hk => hg5.1 k (by omega), fun k hk => hg5.2 k (by omega)⟩ (by omega) (fun q hq => by omega) (by omega)
  have hLV : LV G ad5 f5 0 := ⟨_, _, _, _, _, _, _, _, _, _, _, hB5.rx, hMB.grow hg5, RLx.start⟩
  have k7 := law_loop (e := e) (below := below) hst S hr hlocks hXs hbl hL (L + 1) 0 f5 0 (fun _ => 0) H locs (by omega) (Nat.zero_le _) hLV hn5 hG ls hl
  exact W.widen (by omega) (by omega) k7
end OVS

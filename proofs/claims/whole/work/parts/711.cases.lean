set_option maxHeartbeats 4000000 in
set_option maxRecDepth 100000 in
theorem lc_release {p : Program} {l : Launch} {e : Env} {s : State} {m : MethodId} {below : List Frame} {meth : Method} {c : Code} {Q : State → Prop} {b L : Nat} {xs : Nat → Int32} {G : Gx} {ad : Nat → Nat} {f : Nat → va_E} {H : Heap} {locs : List Loc} {ls : Array Slot} {i cells slots cd : Nat} {g : Nat → Int64} (hst : l.stackTraces = false) (S : CallFix p m c cL_law 8 s #[Value.ref b] wsL_law RL) (hXs : va_X b L xs s s.heap) (hbl : b < s.heap.size) (hL : L ≤ 384) (hLV : LV G ad f cd) (hg : f 83 = eJ G 1 g) (hG : ov_dy G 84 ad s.heap.size s f H locs) (hi : i + 6 ≤ L) (hl : lv_has ls 8 [(4, .int (nI i)), (3, .ref (ad 83)), (2, .ref (ad 76)), (1, .ref (ad 0)), (0, .ref b)]) (hc : cells + 8 ≤ 600128) (hs : slots + 64 ≤ 7301098) (kk : lw_K p l e s m b below meth c Q G ad i cells slots) : W p l e room_1 s m #[Value.ref b] below meth c H locs cells slots Q (F0 m 520 ls []) := by
  obtain ⟨th, cx, kx, vx, px, dx, K, V, sz, pl, dn, hX, hM, hR⟩ := hLV
  refine lv_aload_n S.1 S.2.1 dL_law_520 rfl (lv_at hl 3 rfl) ?_
  refine lv_aload_n S.1 S.2.1 dL_law_521 rfl (lv_at hl 4 rfl) ?_
  refine lv_iload S.1 S.2.1 dL_law_522 (lv_at hl 0 rfl) ?_
  refine lv_iconst (v := nI 1) S.1 S.2.1 dL_law_524 (by decide) ?_
  refine o_add S (a := i) (b := 1) dL_law_525 ?_
  refine o_sld S hG hXs hbl hL (by omega) dL_law_526 ?_
  refine lv_aload_n S.1 S.2.1 dL_law_527 rfl (lv_at hl 1 rfl) ?_
  refine o_cSW S (rest := []) (h_L_release l G ad s.heap.size f (xs (i + 1)) _ _ (c_X2_release l hst G ad s.heap.size f th cx kx vx px dx (xs (i + 1)) hX hR.2.2.1) hX.1 (fun r f' h => (h.1 83 (by decide)).trans hg) (fun E h => h.1)) (vx_cwSW 3 S.2.2.2.2 gL_law_L_release rfl rfl rfl (by decide +kernel) ⟨(Nat.le_of_ble_eq_true rfl), (Nat.le_of_ble_eq_true rfl)⟩) hG rfl hl.1 rfl (Nat.le_of_ble_eq_true rfl) dL_law_528 ⟨show _ ≤ 600128 by omega, show _ ≤ 7301098 by omega⟩ (fun k9 f9 H locs hp hG => ?_)
  have hM9 := hM.keep (hp_k1 (val := (fun w9 : Int32 => w9.toInt64)) hp (fun w f1 h => h.1))
  refine lv_istore (lv' := [(5, .int k9), (4, .int (nI i)), (3, .ref (ad 83)), (2, .ref (ad 76)), (1, .ref (ad 0)), (0, .ref b)]) S.1 S.2.1 dL_law_531 hl (by decide) rfl (fun ls hl => ?_)
  refine lv_aload_n S.1 S.2.1 dL_law_533 rfl (lv_at hl 3 rfl) ?_
  refine lv_aload_n S.1 S.2.1 dL_law_534 rfl (lv_at hl 5 rfl) ?_
  refine lv_iload S.1 S.2.1 dL_law_535 (lv_at hl 1 rfl) ?_
  refine lv_iconst (v := nI 1) S.1 S.2.1 dL_law_537 (by decide) ?_
  refine o_add S (a := i) (b := 1) dL_law_538 ?_
  refine o_sld S hG hXs hbl hL (by omega) dL_law_539 ?_
  refine o_cVi S (rest := []) (c_X3_release l G ad s.heap.size f9 cd K V sz th pl dn (xs (i + 1)) hM9 hR.hW hR.1) (cwV 1 S.2.2.2.2 gL_law_X3_release rfl rfl rfl (by decide +kernel) ⟨(Nat.le_of_ble_eq_true rfl), (Nat.le_of_ble_eq_true rfl)⟩) hG (by decide) hM9.1 rfl rfl hl.1 rfl (Nat.le_of_ble_eq_true rfl) dL_law_540 ⟨show _ ≤ 600128 by omega, show _ ≤ 7301098 by omega⟩ (fun r10 f10 H locs hp3 hG => ?_)
  have hm : MT G ad f10 k9 r10.toInt64 := m_release (xs (i + 1)) hX hR hg (hp.imp_right Or.inl) hp3
  obtain ⟨cd9, hcd, rfl, hLV, g9, hg9, hv⟩ := hm
  obtain ⟨th9, cx9, kx9, vx9, px9, dx9, K9, V9, sz9, pl9, dn9, hX9, hM10, hR9⟩ := id hLV
  refine lv_istore (lv' := [(6, .int r10), (5, .int (nI cd9)), (4, .int (nI i)), (3, .ref (ad 83)), (2, .ref (ad 76)), (1, .ref (ad 0)), (0, .ref b)]) S.1 S.2.1 dL_law_543 hl (by decide) rfl (fun ls hl => ?_)
  refine lv_aload_n S.1 S.2.1 dL_law_545 rfl (lv_at hl 4 rfl) ?_
  refine o_cVi S (rest := []) (c_X3_thrown l G ad s.heap.size f10 cd9 K9 V9 sz9 th9 pl9 dn9 hM10) (cwV 0 S.2.2.2.2 gL_law_X3_thrown rfl rfl rfl (by decide +kernel) ⟨(Nat.le_of_ble_eq_true rfl), (Nat.le_of_ble_eq_true rfl)⟩) hG (by decide) hM10.1 rfl rfl hl.1 rfl (Nat.le_of_ble_eq_true rfl) dL_law_546 ⟨show _ ≤ 600128 by omega, show _ ≤ 7301098 by omega⟩ (fun r11 f11 H locs hp4 hG => ?_)
  obtain ⟨rfl, rfl⟩ := hp4
  refine lv_iload S.1 S.2.1 dL_law_549 (lv_at hl 1 rfl) ?_
  refine n_eq S (a := cd9) (b := cd9) (tgt := 556) dL_law_551 (by decide) (by omega) (by omega) (fun _ => ?_) (fun h9 => absurd rfl h9)
  refine lv_iload S.1 S.2.1 dL_law_556 (lv_at hl 1 rfl) ?_
  refine n_if_ne S (a := cd9) (tgt := 573) dL_law_558 (by decide) (by omega) (fun _ => ?_) (fun c0 => ?_)
  · skip
    refine lv_goto (tgt := 1628) S.1 S.2.1 dL_law_573 (by decide) ?_
    have k7 := kk _ _ _ _ _ _ hLV hg9 hG (lv_sub hl [2, 3, 4, 5, 6] rfl)
    exact W.widen (by omega) (by omega) k7
  · skip
    refine lv_aload_n S.1 S.2.1 dL_law_561 rfl (lv_at hl 3 rfl) ?_
    refine lv_iconst (v := nI 0) S.1 S.2.1 dL_law_562 (by decide) ?_
    refine o_lald S hG (j := 0) (by decide) hg9 (by decide) dL_law_563 (kk := ?_)
    refine lv_iload S.1 S.2.1 dL_law_564 (lv_at hl 0 rfl) ?_
    refine lv_i2l (v := r10.toInt64) S.1 S.2.1 dL_law_566 rfl ?_
    refine W.lcmp S.1 S.2.1 dL_law_567 ?_
    refine lv_if_eq (tgt := 573) S.1 S.2.1 dL_law_568 (by decide) (fun _ => ?_) (fun h9 => absurd ((lg_cmp_eq _ _).mpr (hv c0)) h9)
    refine lv_goto (tgt := 1628) S.1 S.2.1 dL_law_573 (by decide) ?_
    have k7 := kk _ _ _ _ _ _ hLV hg9 hG (lv_sub hl [2, 3, 4, 5, 6] rfl)
    exact W.widen (by omega) (by omega) k7

set_option maxHeartbeats 4000000 in
set_option maxRecDepth 100000 in
theorem lc_restore {p : Program} {l : Launch} {e : Env} {s : State} {m : MethodId} {below : List Frame} {meth : Method} {c : Code} {Q : State → Prop} {b L : Nat} {xs : Nat → Int32} {G : Gx} {ad : Nat → Nat} {f : Nat → va_E} {H : Heap} {locs : List Loc} {ls : Array Slot} {i cells slots cd : Nat} {g : Nat → Int64} (hst : l.stackTraces = false) (S : CallFix p m c cL_law 8 s #[Value.ref b] wsL_law RL) (hXs : va_X b L xs s s.heap) (hbl : b < s.heap.size) (hL : L ≤ 384) (hLV : LV G ad f cd) (hg : f 83 = eJ G 1 g) (hG : ov_dy G 84 ad s.heap.size s f H locs) (hi : i + 6 ≤ L) (hl : lv_has ls 8 [(4, .int (nI i)), (3, .ref (ad 83)), (2, .ref (ad 76)), (1, .ref (ad 0)), (0, .ref b)]) (hc : cells + 8 ≤ 600128) (hs : slots + 64 ≤ 7301098) (kk : lw_K p l e s m b below meth c Q G ad i cells slots) : W p l e room_1 s m #[Value.ref b] below meth c H locs cells slots Q (F0 m 576 ls []) := by
  obtain ⟨th, cx, kx, vx, px, dx, K, V, sz, pl, dn, hX, hM, hR⟩ := hLV
  refine lv_aload_n S.1 S.2.1 dL_law_576 rfl (lv_at hl 3 rfl) ?_
  refine lv_aload_n S.1 S.2.1 dL_law_577 rfl (lv_at hl 4 rfl) ?_
  refine lv_iload S.1 S.2.1 dL_law_578 (lv_at hl 0 rfl) ?_
  refine lv_iconst (v := nI 1) S.1 S.2.1 dL_law_580 (by decide) ?_
  refine o_add S (a := i) (b := 1) dL_law_581 ?_
  refine o_sld S hG hXs hbl hL (by omega) dL_law_582 ?_
  refine lv_aload_n S.1 S.2.1 dL_law_583 rfl (lv_at hl 1 rfl) ?_
  refine o_cSW S (rest := []) (h_L_restore l G ad s.heap.size f (xs (i + 1)) _ _ (c_X2_restore l hst G ad s.heap.size f th cx kx vx px dx (xs (i + 1)) hX hR.2.2.1) hX.1 (fun r f' h => (h.1 83 (by decide)).trans hg) (fun E h => h.1)) (vx_cwSW 3 S.2.2.2.2 gL_law_L_restore rfl rfl rfl (by decide +kernel) ⟨(Nat.le_of_ble_eq_true rfl), (Nat.le_of_ble_eq_true rfl)⟩) hG rfl hl.1 rfl (Nat.le_of_ble_eq_true rfl) dL_law_584 ⟨show _ ≤ 600128 by omega, show _ ≤ 7301098 by omega⟩ (fun k9 f9 H locs hp hG => ?_)
  have hM9 := hM.keep (hp_k1 (val := (fun w9 : Int32 => w9.toInt64)) hp (fun w f1 h => h.1))
  refine lv_istore (lv' := [(5, .int k9), (4, .int (nI i)), (3, .ref (ad 83)), (2, .ref (ad 76)), (1, .ref (ad 0)), (0, .ref b)]) S.1 S.2.1 dL_law_587 hl (by decide) rfl (fun ls hl => ?_)
  refine lv_aload_n S.1 S.2.1 dL_law_589 rfl (lv_at hl 3 rfl) ?_
  refine lv_aload_n S.1 S.2.1 dL_law_590 rfl (lv_at hl 5 rfl) ?_
  refine lv_iload S.1 S.2.1 dL_law_591 (lv_at hl 1 rfl) ?_
  refine lv_iconst (v := nI 1) S.1 S.2.1 dL_law_593 (by decide) ?_
  refine o_add S (a := i) (b := 1) dL_law_594 ?_
  refine o_sld S hG hXs hbl hL (by omega) dL_law_595 ?_
  refine o_cVi S (rest := []) (c_X3_restore l G ad s.heap.size f9 cd K V sz th pl dn (xs (i + 1)) hM9 hR.hW hR.1) (cwV 1 S.2.2.2.2 gL_law_X3_restore rfl rfl rfl (by decide +kernel) ⟨(Nat.le_of_ble_eq_true rfl), (Nat.le_of_ble_eq_true rfl)⟩) hG (by decide) hM9.1 rfl rfl hl.1 rfl (Nat.le_of_ble_eq_true rfl) dL_law_596 ⟨show _ ≤ 600128 by omega, show _ ≤ 7301098 by omega⟩ (fun r10 f10 H locs hp3 hG => ?_)
  have hm : MT G ad f10 k9 r10.toInt64 := m_restore (xs (i + 1)) hX hR hg (hp.imp_right Or.inl) hp3
  obtain ⟨cd9, hcd, rfl, hLV, g9, hg9, hv⟩ := hm
  obtain ⟨th9, cx9, kx9, vx9, px9, dx9, K9, V9, sz9, pl9, dn9, hX9, hM10, hR9⟩ := id hLV
  refine lv_istore (lv' := [(6, .int r10), (5, .int (nI cd9)), (4, .int (nI i)), (3, .ref (ad 83)), (2, .ref (ad 76)), (1, .ref (ad 0)), (0, .ref b)]) S.1 S.2.1 dL_law_599 hl (by decide) rfl (fun ls hl => ?_)
  refine lv_aload_n S.1 S.2.1 dL_law_601 rfl (lv_at hl 4 rfl) ?_
  refine o_cVi S (rest := []) (c_X3_thrown l G ad s.heap.size f10 cd9 K9 V9 sz9 th9 pl9 dn9 hM10) (cwV 0 S.2.2.2.2 gL_law_X3_thrown rfl rfl rfl (by decide +kernel) ⟨(Nat.le_of_ble_eq_true rfl), (Nat.le_of_ble_eq_true rfl)⟩) hG (by decide) hM10.1 rfl rfl hl.1 rfl (Nat.le_of_ble_eq_true rfl) dL_law_602 ⟨show _ ≤ 600128 by omega, show _ ≤ 7301098 by omega⟩ (fun r11 f11 H locs hp4 hG => ?_)
  obtain ⟨rfl, rfl⟩ := hp4
  refine lv_iload S.1 S.2.1 dL_law_605 (lv_at hl 1 rfl) ?_
  refine n_eq S (a := cd9) (b := cd9) (tgt := 612) dL_law_607 (by decide) (by omega) (by omega) (fun _ => ?_) (fun h9 => absurd rfl h9)
  refine lv_iload S.1 S.2.1 dL_law_612 (lv_at hl 1 rfl) ?_
  refine n_if_ne S (a := cd9) (tgt := 629) dL_law_614 (by decide) (by omega) (fun _ => ?_) (fun c0 => ?_)
  · skip
    refine lv_goto (tgt := 1628) S.1 S.2.1 dL_law_629 (by decide) ?_
    have k7 := kk _ _ _ _ _ _ hLV hg9 hG (lv_sub hl [2, 3, 4, 5, 6] rfl)
    exact W.widen (by omega) (by omega) k7
  · skip
    refine lv_aload_n S.1 S.2.1 dL_law_617 rfl (lv_at hl 3 rfl) ?_
    refine lv_iconst (v := nI 0) S.1 S.2.1 dL_law_618 (by decide) ?_
    refine o_lald S hG (j := 0) (by decide) hg9 (by decide) dL_law_619 (kk := ?_)
    refine lv_iload S.1 S.2.1 dL_law_620 (lv_at hl 0 rfl) ?_
    refine lv_i2l (v := r10.toInt64) S.1 S.2.1 dL_law_622 rfl ?_
    refine W.lcmp S.1 S.2.1 dL_law_623 ?_
    refine lv_if_eq (tgt := 629) S.1 S.2.1 dL_law_624 (by decide) (fun _ => ?_) (fun h9 => absurd ((lg_cmp_eq _ _).mpr (hv c0)) h9)
    refine lv_goto (tgt := 1628) S.1 S.2.1 dL_law_629 (by decide) ?_
    have k7 := kk _ _ _ _ _ _ hLV hg9 hG (lv_sub hl [2, 3, 4, 5, 6] rfl)
    exact W.widen (by omega) (by omega) k7

set_option maxHeartbeats 4000000 in
set_option maxRecDepth 100000 in
theorem lc_size {p : Program} {l : Launch} {e : Env} {s : State} {m : MethodId} {below : List Frame} {meth : Method} {c : Code} {Q : State → Prop} {b L : Nat} {xs : Nat → Int32} {G : Gx} {ad : Nat → Nat} {f : Nat → va_E} {H : Heap} {locs : List Loc} {ls : Array Slot} {i cells slots cd : Nat} {g : Nat → Int64} (hst : l.stackTraces = false) (S : CallFix p m c cL_law 8 s #[Value.ref b] wsL_law RL) (hXs : va_X b L xs s s.heap) (hbl : b < s.heap.size) (hL : L ≤ 384) (hLV : LV G ad f cd) (hg : f 83 = eJ G 1 g) (hG : ov_dy G 84 ad s.heap.size s f H locs) (hi : i + 6 ≤ L) (hl : lv_has ls 8 [(4, .int (nI i)), (3, .ref (ad 83)), (2, .ref (ad 76)), (1, .ref (ad 0)), (0, .ref b)]) (hc : cells + 8 ≤ 600128) (hs : slots + 64 ≤ 7301098) (kk : lw_K p l e s m b below meth c Q G ad i cells slots) : W p l e room_1 s m #[Value.ref b] below meth c H locs cells slots Q (F0 m 632 ls []) := by
  obtain ⟨th, cx, kx, vx, px, dx, K, V, sz, pl, dn, hX, hM, hR⟩ := hLV
  refine lv_aload_n S.1 S.2.1 dL_law_632 rfl (lv_at hl 3 rfl) ?_
  refine lv_aload_n S.1 S.2.1 dL_law_633 rfl (lv_at hl 4 rfl) ?_
  refine lv_iload S.1 S.2.1 dL_law_634 (lv_at hl 0 rfl) ?_
  refine lv_iconst (v := nI 1) S.1 S.2.1 dL_law_636 (by decide) ?_
  refine o_add S (a := i) (b := 1) dL_law_637 ?_
  refine o_sld S hG hXs hbl hL (by omega) dL_law_638 ?_
  refine lv_aload_n S.1 S.2.1 dL_law_639 rfl (lv_at hl 1 rfl) ?_
  refine o_cSW S (rest := []) (h_L_size l G ad s.heap.size f (xs (i + 1)) _ _ (c_X2_size l hst G ad s.heap.size f th cx kx vx px dx (xs (i + 1)) hX hR.2.2.1) hX.1 (fun r f' h => by rw [← h.1]; exact hg) (fun E h => h.1)) (vx_cwSW 3 S.2.2.2.2 gL_law_L_size rfl rfl rfl (by decide +kernel) ⟨(Nat.le_of_ble_eq_true rfl), (Nat.le_of_ble_eq_true rfl)⟩) hG rfl hl.1 rfl (Nat.le_of_ble_eq_true rfl) dL_law_640 ⟨show _ ≤ 600128 by omega, show _ ≤ 7301098 by omega⟩ (fun k9 f9 H locs hp hG => ?_)
  have hM9 := hM.keep (hp_k1 (val := (fun w9 : Int32 => w9.toInt64)) hp (fun w f1 h => by rw [← h.1]; exact OnX.rf))
  refine lv_istore (lv' := [(5, .int k9), (4, .int (nI i)), (3, .ref (ad 83)), (2, .ref (ad 76)), (1, .ref (ad 0)), (0, .ref b)]) S.1 S.2.1 dL_law_643 hl (by decide) rfl (fun ls hl => ?_)
  refine lv_aload_n S.1 S.2.1 dL_law_645 rfl (lv_at hl 3 rfl) ?_
  refine lv_aload_n S.1 S.2.1 dL_law_646 rfl (lv_at hl 5 rfl) ?_
  refine lv_iload S.1 S.2.1 dL_law_647 (lv_at hl 1 rfl) ?_
  refine lv_iconst (v := nI 1) S.1 S.2.1 dL_law_649 (by decide) ?_
  refine o_add S (a := i) (b := 1) dL_law_650 ?_
  refine o_sld S hG hXs hbl hL (by omega) dL_law_651 ?_
  refine o_cVi S (rest := []) (c_X3_size l G ad s.heap.size f9 cd K V sz th pl dn (xs (i + 1)) hM9 hR.hW hR.1) (cwV 1 S.2.2.2.2 gL_law_X3_size rfl rfl rfl (by decide +kernel) ⟨(Nat.le_of_ble_eq_true rfl), (Nat.le_of_ble_eq_true rfl)⟩) hG (by decide) hM9.1 rfl rfl hl.1 rfl (Nat.le_of_ble_eq_true rfl) dL_law_652 ⟨show _ ≤ 600128 by omega, show _ ≤ 7301098 by omega⟩ (fun r10 f10 H locs hp3 hG => ?_)
  have hm : MT G ad f10 k9 r10.toInt64 := m_size (xs (i + 1)) hX hR hg (hp.imp_right Or.inl) hp3
  obtain ⟨cd9, hcd, rfl, hLV, g9, hg9, hv⟩ := hm
  obtain ⟨th9, cx9, kx9, vx9, px9, dx9, K9, V9, sz9, pl9, dn9, hX9, hM10, hR9⟩ := id hLV
  refine lv_istore (lv' := [(6, .int r10), (5, .int (nI cd9)), (4, .int (nI i)), (3, .ref (ad 83)), (2, .ref (ad 76)), (1, .ref (ad 0)), (0, .ref b)]) S.1 S.2.1 dL_law_655 hl (by decide) rfl (fun ls hl => ?_)
  refine lv_aload_n S.1 S.2.1 dL_law_657 rfl (lv_at hl 4 rfl) ?_
  refine o_cVi S (rest := []) (c_X3_thrown l G ad s.heap.size f10 cd9 K9 V9 sz9 th9 pl9 dn9 hM10) (cwV 0 S.2.2.2.2 gL_law_X3_thrown rfl rfl rfl (by decide +kernel) ⟨(Nat.le_of_ble_eq_true rfl), (Nat.le_of_ble_eq_true rfl)⟩) hG (by decide) hM10.1 rfl rfl hl.1 rfl (Nat.le_of_ble_eq_true rfl) dL_law_658 ⟨show _ ≤ 600128 by omega, show _ ≤ 7301098 by omega⟩ (fun r11 f11 H locs hp4 hG => ?_)
  obtain ⟨rfl, rfl⟩ := hp4
  refine lv_iload S.1 S.2.1 dL_law_661 (lv_at hl 1 rfl) ?_
  refine n_eq S (a := cd9) (b := cd9) (tgt := 668) dL_law_663 (by decide) (by omega) (by omega) (fun _ => ?_) (fun h9 => absurd rfl h9)
  refine lv_iload S.1 S.2.1 dL_law_668 (lv_at hl 1 rfl) ?_
  refine n_if_ne S (a := cd9) (tgt := 685) dL_law_670 (by decide) (by omega) (fun _ => ?_) (fun c0 => ?_)
  · skip
    refine lv_goto (tgt := 1628) S.1 S.2.1 dL_law_685 (by decide) ?_
    have k7 := kk _ _ _ _ _ _ hLV hg9 hG (lv_sub hl [2, 3, 4, 5, 6] rfl)
    exact W.widen (by omega) (by omega) k7
  · skip
    refine lv_aload_n S.1 S.2.1 dL_law_673 rfl (lv_at hl 3 rfl) ?_
    refine lv_iconst (v := nI 0) S.1 S.2.1 dL_law_674 (by decide) ?_
    refine o_lald S hG (j := 0) (by decide) hg9 (by decide) dL_law_675 (kk := ?_)
    refine lv_iload S.1 S.2.1 dL_law_676 (lv_at hl 0 rfl) ?_
    refine lv_i2l (v := r10.toInt64) S.1 S.2.1 dL_law_678 rfl ?_
    refine W.lcmp S.1 S.2.1 dL_law_679 ?_
    refine lv_if_eq (tgt := 685) S.1 S.2.1 dL_law_680 (by decide) (fun _ => ?_) (fun h9 => absurd ((lg_cmp_eq _ _).mpr (hv c0)) h9)
    refine lv_goto (tgt := 1628) S.1 S.2.1 dL_law_685 (by decide) ?_
    have k7 := kk _ _ _ _ _ _ hLV hg9 hG (lv_sub hl [2, 3, 4, 5, 6] rfl)
    exact W.widen (by omega) (by omega) k7

set_option maxHeartbeats 4000000 in
set_option maxRecDepth 100000 in
theorem lc_get {p : Program} {l : Launch} {e : Env} {s : State} {m : MethodId} {below : List Frame} {meth : Method} {c : Code} {Q : State → Prop} {b L : Nat} {xs : Nat → Int32} {G : Gx} {ad : Nat → Nat} {f : Nat → va_E} {H : Heap} {locs : List Loc} {ls : Array Slot} {i cells slots cd : Nat} {g : Nat → Int64} (hst : l.stackTraces = false) (S : CallFix p m c cL_law 8 s #[Value.ref b] wsL_law RL) (hXs : va_X b L xs s s.heap) (hbl : b < s.heap.size) (hL : L ≤ 384) (hLV : LV G ad f cd) (hg : f 83 = eJ G 1 g) (hG : ov_dy G 84 ad s.heap.size s f H locs) (hi : i + 6 ≤ L) (hl : lv_has ls 8 [(4, .int (nI i)), (3, .ref (ad 83)), (2, .ref (ad 76)), (1, .ref (ad 0)), (0, .ref b)]) (hc : cells + 8 ≤ 600128) (hs : slots + 64 ≤ 7301098) (kk : lw_K p l e s m b below meth c Q G ad i cells slots) : W p l e room_1 s m #[Value.ref b] below meth c H locs cells slots Q (F0 m 688 ls []) := by
  obtain ⟨th, cx, kx, vx, px, dx, K, V, sz, pl, dn, hX, hM, hR⟩ := hLV
  refine lv_aload_n S.1 S.2.1 dL_law_688 rfl (lv_at hl 3 rfl) ?_
  refine lv_aload_n S.1 S.2.1 dL_law_689 rfl (lv_at hl 4 rfl) ?_
  refine lv_iload S.1 S.2.1 dL_law_690 (lv_at hl 0 rfl) ?_
  refine lv_iconst (v := nI 1) S.1 S.2.1 dL_law_692 (by decide) ?_
  refine o_add S (a := i) (b := 1) dL_law_693 ?_
  refine o_sld S hG hXs hbl hL (by omega) dL_law_694 ?_
  refine lv_aload_n S.1 S.2.1 dL_law_695 rfl (lv_at hl 4 rfl) ?_
  refine lv_iload S.1 S.2.1 dL_law_696 (lv_at hl 0 rfl) ?_
  refine lv_iconst (v := nI 2) S.1 S.2.1 dL_law_698 (by decide) ?_
  refine o_add S (a := i) (b := 2) dL_law_699 ?_
  refine o_sld S hG hXs hbl hL (by omega) dL_law_700 ?_
  refine lv_aload_n S.1 S.2.1 dL_law_701 rfl (lv_at hl 1 rfl) ?_
  refine o_cSW S (rest := []) (h_L_get l G ad s.heap.size f (xs (i + 1)) (xs (i + 2)) _ _ (c_X2_get l hst G ad s.heap.size f th cx kx vx px dx (xs (i + 1)) (xs (i + 2)) hX hR.2.2.1) hX.1 (fun r f' h => by rw [← h.1]; exact hg) (fun E h => h.imp And.left And.left)) (vx_cwSW 4 S.2.2.2.2 gL_law_L_get rfl rfl rfl (by decide +kernel) ⟨(Nat.le_of_ble_eq_true rfl), (Nat.le_of_ble_eq_true rfl)⟩) hG rfl hl.1 rfl (Nat.le_of_ble_eq_true rfl) dL_law_702 ⟨show _ ≤ 600128 by omega, show _ ≤ 7301098 by omega⟩ (fun k9 f9 H locs hp hG => ?_)
  have hM9 := hM.keep (hp_k2 (val := (fun w9 : Int32 => w9.toInt64)) hp (fun w f1 h => by rw [← h.1]; exact OnX.rf))
  refine lv_istore (lv' := [(5, .int k9), (4, .int (nI i)), (3, .ref (ad 83)), (2, .ref (ad 76)), (1, .ref (ad 0)), (0, .ref b)]) S.1 S.2.1 dL_law_705 hl (by decide) rfl (fun ls hl => ?_)
  refine lv_aload_n S.1 S.2.1 dL_law_707 rfl (lv_at hl 3 rfl) ?_
  refine lv_aload_n S.1 S.2.1 dL_law_708 rfl (lv_at hl 5 rfl) ?_
  refine lv_iload S.1 S.2.1 dL_law_709 (lv_at hl 1 rfl) ?_
  refine lv_iconst (v := nI 1) S.1 S.2.1 dL_law_711 (by decide) ?_
  refine o_add S (a := i) (b := 1) dL_law_712 ?_
  refine o_sld S hG hXs hbl hL (by omega) dL_law_713 ?_
  refine lv_aload_n S.1 S.2.1 dL_law_714 rfl (lv_at hl 5 rfl) ?_
  refine lv_iload S.1 S.2.1 dL_law_715 (lv_at hl 1 rfl) ?_
  refine lv_iconst (v := nI 2) S.1 S.2.1 dL_law_717 (by decide) ?_
  refine o_add S (a := i) (b := 2) dL_law_718 ?_
  refine o_sld S hG hXs hbl hL (by omega) dL_law_719 ?_
  refine o_cVi S (rest := []) (c_X3_get l G ad s.heap.size f9 cd K V sz th pl dn (xs (i + 1)) (xs (i + 2)) hM9 hR.hW hR.1) (cwV 2 S.2.2.2.2 gL_law_X3_get rfl rfl rfl (by decide +kernel) ⟨(Nat.le_of_ble_eq_true rfl), (Nat.le_of_ble_eq_true rfl)⟩) hG (by decide) hM9.1 rfl rfl hl.1 rfl (Nat.le_of_ble_eq_true rfl) dL_law_720 ⟨show _ ≤ 600128 by omega, show _ ≤ 7301098 by omega⟩ (fun r10 f10 H locs hp3 hG => ?_)
  have hm : MT G ad f10 k9 r10.toInt64 := m_get (xs (i + 1)) (xs (i + 2)) hX hR hg hp hp3
  obtain ⟨cd9, hcd, rfl, hLV, g9, hg9, hv⟩ := hm
  obtain ⟨th9, cx9, kx9, vx9, px9, dx9, K9, V9, sz9, pl9, dn9, hX9, hM10, hR9⟩ := id hLV
  refine lv_istore (lv' := [(6, .int r10), (5, .int (nI cd9)), (4, .int (nI i)), (3, .ref (ad 83)), (2, .ref (ad 76)), (1, .ref (ad 0)), (0, .ref b)]) S.1 S.2.1 dL_law_723 hl (by decide) rfl (fun ls hl => ?_)
  refine lv_aload_n S.1 S.2.1 dL_law_725 rfl (lv_at hl 4 rfl) ?_
  refine o_cVi S (rest := []) (c_X3_thrown l G ad s.heap.size f10 cd9 K9 V9 sz9 th9 pl9 dn9 hM10) (cwV 0 S.2.2.2.2 gL_law_X3_thrown rfl rfl rfl (by decide +kernel) ⟨(Nat.le_of_ble_eq_true rfl), (Nat.le_of_ble_eq_true rfl)⟩) hG (by decide) hM10.1 rfl rfl hl.1 rfl (Nat.le_of_ble_eq_true rfl) dL_law_726 ⟨show _ ≤ 600128 by omega, show _ ≤ 7301098 by omega⟩ (fun r11 f11 H locs hp4 hG => ?_)
  obtain ⟨rfl, rfl⟩ := hp4
  refine lv_iload S.1 S.2.1 dL_law_729 (lv_at hl 1 rfl) ?_
  refine n_eq S (a := cd9) (b := cd9) (tgt := 736) dL_law_731 (by decide) (by omega) (by omega) (fun _ => ?_) (fun h9 => absurd rfl h9)
  refine lv_iload S.1 S.2.1 dL_law_736 (lv_at hl 1 rfl) ?_
  refine n_if_ne S (a := cd9) (tgt := 753) dL_law_738 (by decide) (by omega) (fun _ => ?_) (fun c0 => ?_)
  · skip
    refine lv_goto (tgt := 1628) S.1 S.2.1 dL_law_753 (by decide) ?_
    have k7 := kk _ _ _ _ _ _ hLV hg9 hG (lv_sub hl [2, 3, 4, 5, 6] rfl)
    exact W.widen (by omega) (by omega) k7
  · skip
    refine lv_aload_n S.1 S.2.1 dL_law_741 rfl (lv_at hl 3 rfl) ?_
    refine lv_iconst (v := nI 0) S.1 S.2.1 dL_law_742 (by decide) ?_
    refine o_lald S hG (j := 0) (by decide) hg9 (by decide) dL_law_743 (kk := ?_)
    refine lv_iload S.1 S.2.1 dL_law_744 (lv_at hl 0 rfl) ?_
    refine lv_i2l (v := r10.toInt64) S.1 S.2.1 dL_law_746 rfl ?_
    refine W.lcmp S.1 S.2.1 dL_law_747 ?_
    refine lv_if_eq (tgt := 753) S.1 S.2.1 dL_law_748 (by decide) (fun _ => ?_) (fun h9 => absurd ((lg_cmp_eq _ _).mpr (hv c0)) h9)
    refine lv_goto (tgt := 1628) S.1 S.2.1 dL_law_753 (by decide) ?_
    have k7 := kk _ _ _ _ _ _ hLV hg9 hG (lv_sub hl [2, 3, 4, 5, 6] rfl)
    exact W.widen (by omega) (by omega) k7

set_option maxHeartbeats 4000000 in
set_option maxRecDepth 100000 in
theorem lc_rank {p : Program} {l : Launch} {e : Env} {s : State} {m : MethodId} {below : List Frame} {meth : Method} {c : Code} {Q : State → Prop} {b L : Nat} {xs : Nat → Int32} {G : Gx} {ad : Nat → Nat} {f : Nat → va_E} {H : Heap} {locs : List Loc} {ls : Array Slot} {i cells slots cd : Nat} {g : Nat → Int64} (hst : l.stackTraces = false) (S : CallFix p m c cL_law 8 s #[Value.ref b] wsL_law RL) (hXs : va_X b L xs s s.heap) (hbl : b < s.heap.size) (hL : L ≤ 384) (hLV : LV G ad f cd) (hg : f 83 = eJ G 1 g) (hG : ov_dy G 84 ad s.heap.size s f H locs) (hi : i + 6 ≤ L) (hl : lv_has ls 8 [(4, .int (nI i)), (3, .ref (ad 83)), (2, .ref (ad 76)), (1, .ref (ad 0)), (0, .ref b)]) (hc : cells + 8 ≤ 600128) (hs : slots + 64 ≤ 7301098) (kk : lw_K p l e s m b below meth c Q G ad i cells slots) : W p l e room_1 s m #[Value.ref b] below meth c H locs cells slots Q (F0 m 756 ls []) := by
  obtain ⟨th, cx, kx, vx, px, dx, K, V, sz, pl, dn, hX, hM, hR⟩ := hLV
  refine lv_aload_n S.1 S.2.1 dL_law_756 rfl (lv_at hl 3 rfl) ?_
  refine lv_aload_n S.1 S.2.1 dL_law_757 rfl (lv_at hl 4 rfl) ?_
  refine lv_iload S.1 S.2.1 dL_law_758 (lv_at hl 0 rfl) ?_
  refine lv_iconst (v := nI 1) S.1 S.2.1 dL_law_760 (by decide) ?_
  refine o_add S (a := i) (b := 1) dL_law_761 ?_
  refine o_sld S hG hXs hbl hL (by omega) dL_law_762 ?_
  refine lv_aload_n S.1 S.2.1 dL_law_763 rfl (lv_at hl 4 rfl) ?_
  refine lv_iload S.1 S.2.1 dL_law_764 (lv_at hl 0 rfl) ?_
  refine lv_iconst (v := nI 2) S.1 S.2.1 dL_law_766 (by decide) ?_
  refine o_add S (a := i) (b := 2) dL_law_767 ?_
  refine o_sld S hG hXs hbl hL (by omega) dL_law_768 ?_
  refine lv_aload_n S.1 S.2.1 dL_law_769 rfl (lv_at hl 1 rfl) ?_
  refine o_cSW S (rest := []) (h_L_rank l G ad s.heap.size f (xs (i + 1)) (xs (i + 2)) _ _ (c_X2_rank l hst G ad s.heap.size f th cx kx vx px dx (xs (i + 1)) (xs (i + 2)) hX hR.2.2.1) hX.1 (fun r f' h => by rw [← h.1]; exact hg) (fun E h => h.1)) (vx_cwSW 4 S.2.2.2.2 gL_law_L_rank rfl rfl rfl (by decide +kernel) ⟨(Nat.le_of_ble_eq_true rfl), (Nat.le_of_ble_eq_true rfl)⟩) hG rfl hl.1 rfl (Nat.le_of_ble_eq_true rfl) dL_law_770 ⟨show _ ≤ 600128 by omega, show _ ≤ 7301098 by omega⟩ (fun k9 f9 H locs hp hG => ?_)
  have hM9 := hM.keep (hp_k1 (val := (fun w9 : Int32 => w9.toInt64)) hp (fun w f1 h => by rw [← h.1]; exact OnX.rf))
  refine lv_istore (lv' := [(5, .int k9), (4, .int (nI i)), (3, .ref (ad 83)), (2, .ref (ad 76)), (1, .ref (ad 0)), (0, .ref b)]) S.1 S.2.1 dL_law_773 hl (by decide) rfl (fun ls hl => ?_)
  refine lv_aload_n S.1 S.2.1 dL_law_775 rfl (lv_at hl 3 rfl) ?_
  refine lv_aload_n S.1 S.2.1 dL_law_776 rfl (lv_at hl 5 rfl) ?_
  refine lv_iload S.1 S.2.1 dL_law_777 (lv_at hl 1 rfl) ?_
  refine lv_iconst (v := nI 1) S.1 S.2.1 dL_law_779 (by decide) ?_
  refine o_add S (a := i) (b := 1) dL_law_780 ?_
  refine o_sld S hG hXs hbl hL (by omega) dL_law_781 ?_
  refine lv_aload_n S.1 S.2.1 dL_law_782 rfl (lv_at hl 5 rfl) ?_
  refine lv_iload S.1 S.2.1 dL_law_783 (lv_at hl 1 rfl) ?_
  refine lv_iconst (v := nI 2) S.1 S.2.1 dL_law_785 (by decide) ?_
  refine o_add S (a := i) (b := 2) dL_law_786 ?_
  refine o_sld S hG hXs hbl hL (by omega) dL_law_787 ?_
  refine o_cVi S (rest := []) (c_X3_rank l G ad s.heap.size f9 cd K V sz th pl dn (xs (i + 1)) (xs (i + 2)) hM9 hR.hW hR.1) (cwV 2 S.2.2.2.2 gL_law_X3_rank rfl rfl rfl (by decide +kernel) ⟨(Nat.le_of_ble_eq_true rfl), (Nat.le_of_ble_eq_true rfl)⟩) hG (by decide) hM9.1 rfl rfl hl.1 rfl (Nat.le_of_ble_eq_true rfl) dL_law_788 ⟨show _ ≤ 600128 by omega, show _ ≤ 7301098 by omega⟩ (fun r10 f10 H locs hp3 hG => ?_)
  have hm : MT G ad f10 k9 r10.toInt64 := m_rank (xs (i + 1)) (xs (i + 2)) hX hR hg (hp.imp_right Or.inl) hp3
  obtain ⟨cd9, hcd, rfl, hLV, g9, hg9, hv⟩ := hm
  obtain ⟨th9, cx9, kx9, vx9, px9, dx9, K9, V9, sz9, pl9, dn9, hX9, hM10, hR9⟩ := id hLV
  refine lv_istore (lv' := [(6, .int r10), (5, .int (nI cd9)), (4, .int (nI i)), (3, .ref (ad 83)), (2, .ref (ad 76)), (1, .ref (ad 0)), (0, .ref b)]) S.1 S.2.1 dL_law_791 hl (by decide) rfl (fun ls hl => ?_)
  refine lv_aload_n S.1 S.2.1 dL_law_793 rfl (lv_at hl 4 rfl) ?_
  refine o_cVi S (rest := []) (c_X3_thrown l G ad s.heap.size f10 cd9 K9 V9 sz9 th9 pl9 dn9 hM10) (cwV 0 S.2.2.2.2 gL_law_X3_thrown rfl rfl rfl (by decide +kernel) ⟨(Nat.le_of_ble_eq_true rfl), (Nat.le_of_ble_eq_true rfl)⟩) hG (by decide) hM10.1 rfl rfl hl.1 rfl (Nat.le_of_ble_eq_true rfl) dL_law_794 ⟨show _ ≤ 600128 by omega, show _ ≤ 7301098 by omega⟩ (fun r11 f11 H locs hp4 hG => ?_)
  obtain ⟨rfl, rfl⟩ := hp4
  refine lv_iload S.1 S.2.1 dL_law_797 (lv_at hl 1 rfl) ?_
  refine n_eq S (a := cd9) (b := cd9) (tgt := 804) dL_law_799 (by decide) (by omega) (by omega) (fun _ => ?_) (fun h9 => absurd rfl h9)
  refine lv_iload S.1 S.2.1 dL_law_804 (lv_at hl 1 rfl) ?_
  refine n_if_ne S (a := cd9) (tgt := 821) dL_law_806 (by decide) (by omega) (fun _ => ?_) (fun c0 => ?_)
  · skip
    refine lv_goto (tgt := 1628) S.1 S.2.1 dL_law_821 (by decide) ?_
    have k7 := kk _ _ _ _ _ _ hLV hg9 hG (lv_sub hl [2, 3, 4, 5, 6] rfl)
    exact W.widen (by omega) (by omega) k7
  · skip
    refine lv_aload_n S.1 S.2.1 dL_law_809 rfl (lv_at hl 3 rfl) ?_
    refine lv_iconst (v := nI 0) S.1 S.2.1 dL_law_810 (by decide) ?_
    refine o_lald S hG (j := 0) (by decide) hg9 (by decide) dL_law_811 (kk := ?_)
    refine lv_iload S.1 S.2.1 dL_law_812 (lv_at hl 0 rfl) ?_
    refine lv_i2l (v := r10.toInt64) S.1 S.2.1 dL_law_814 rfl ?_
    refine W.lcmp S.1 S.2.1 dL_law_815 ?_
    refine lv_if_eq (tgt := 821) S.1 S.2.1 dL_law_816 (by decide) (fun _ => ?_) (fun h9 => absurd ((lg_cmp_eq _ _).mpr (hv c0)) h9)
    refine lv_goto (tgt := 1628) S.1 S.2.1 dL_law_821 (by decide) ?_
    have k7 := kk _ _ _ _ _ _ hLV hg9 hG (lv_sub hl [2, 3, 4, 5, 6] rfl)
    exact W.widen (by omega) (by omega) k7

set_option maxHeartbeats 4000000 in
set_option maxRecDepth 100000 in
theorem lc_select {p : Program} {l : Launch} {e : Env} {s : State} {m : MethodId} {below : List Frame} {meth : Method} {c : Code} {Q : State → Prop} {b L : Nat} {xs : Nat → Int32} {G : Gx} {ad : Nat → Nat} {f : Nat → va_E} {H : Heap} {locs : List Loc} {ls : Array Slot} {i cells slots cd : Nat} {g : Nat → Int64} (hst : l.stackTraces = false) (S : CallFix p m c cL_law 8 s #[Value.ref b] wsL_law RL) (hXs : va_X b L xs s s.heap) (hbl : b < s.heap.size) (hL : L ≤ 384) (hLV : LV G ad f cd) (hg : f 83 = eJ G 1 g) (hG : ov_dy G 84 ad s.heap.size s f H locs) (hi : i + 6 ≤ L) (hl : lv_has ls 8 [(4, .int (nI i)), (3, .ref (ad 83)), (2, .ref (ad 76)), (1, .ref (ad 0)), (0, .ref b)]) (hc : cells + 8 ≤ 600128) (hs : slots + 64 ≤ 7301098) (kk : lw_K p l e s m b below meth c Q G ad i cells slots) : W p l e room_1 s m #[Value.ref b] below meth c H locs cells slots Q (F0 m 824 ls []) := by
  obtain ⟨th, cx, kx, vx, px, dx, K, V, sz, pl, dn, hX, hM, hR⟩ := hLV
  refine lv_aload_n S.1 S.2.1 dL_law_824 rfl (lv_at hl 3 rfl) ?_
  refine lv_aload_n S.1 S.2.1 dL_law_825 rfl (lv_at hl 4 rfl) ?_
  refine lv_iload S.1 S.2.1 dL_law_826 (lv_at hl 0 rfl) ?_
  refine lv_iconst (v := nI 1) S.1 S.2.1 dL_law_828 (by decide) ?_
  refine o_add S (a := i) (b := 1) dL_law_829 ?_
  refine o_sld S hG hXs hbl hL (by omega) dL_law_830 ?_
  refine lv_aload_n S.1 S.2.1 dL_law_831 rfl (lv_at hl 4 rfl) ?_
  refine lv_iload S.1 S.2.1 dL_law_832 (lv_at hl 0 rfl) ?_
  refine lv_iconst (v := nI 2) S.1 S.2.1 dL_law_834 (by decide) ?_
  refine o_add S (a := i) (b := 2) dL_law_835 ?_
  refine o_sld S hG hXs hbl hL (by omega) dL_law_836 ?_
  refine lv_aload_n S.1 S.2.1 dL_law_837 rfl (lv_at hl 1 rfl) ?_
  refine o_cSW S (rest := []) (h_L_select l G ad s.heap.size f (xs (i + 1)) (xs (i + 2)) _ _ (c_X2_select l hst G ad s.heap.size f th cx kx vx px dx (xs (i + 1)) (xs (i + 2)) hX hR.2.2.1) hX.1 (fun r f' h => by rw [← h.1]; exact hg) (fun E h => h.imp And.left And.left)) (vx_cwSW 4 S.2.2.2.2 gL_law_L_select rfl rfl rfl (by decide +kernel) ⟨(Nat.le_of_ble_eq_true rfl), (Nat.le_of_ble_eq_true rfl)⟩) hG rfl hl.1 rfl (Nat.le_of_ble_eq_true rfl) dL_law_838 ⟨show _ ≤ 600128 by omega, show _ ≤ 7301098 by omega⟩ (fun k9 f9 H locs hp hG => ?_)
  have hM9 := hM.keep (hp_k2 (val := (fun w9 : Int32 => w9.toInt64)) hp (fun w f1 h => by rw [← h.1]; exact OnX.rf))
  refine lv_istore (lv' := [(5, .int k9), (4, .int (nI i)), (3, .ref (ad 83)), (2, .ref (ad 76)), (1, .ref (ad 0)), (0, .ref b)]) S.1 S.2.1 dL_law_841 hl (by decide) rfl (fun ls hl => ?_)
  refine lv_aload_n S.1 S.2.1 dL_law_843 rfl (lv_at hl 3 rfl) ?_
  refine lv_aload_n S.1 S.2.1 dL_law_844 rfl (lv_at hl 5 rfl) ?_
  refine lv_iload S.1 S.2.1 dL_law_845 (lv_at hl 1 rfl) ?_
  refine lv_iconst (v := nI 1) S.1 S.2.1 dL_law_847 (by decide) ?_
  refine o_add S (a := i) (b := 1) dL_law_848 ?_
  refine o_sld S hG hXs hbl hL (by omega) dL_law_849 ?_
  refine lv_aload_n S.1 S.2.1 dL_law_850 rfl (lv_at hl 5 rfl) ?_
  refine lv_iload S.1 S.2.1 dL_law_851 (lv_at hl 1 rfl) ?_
  refine lv_iconst (v := nI 2) S.1 S.2.1 dL_law_853 (by decide) ?_
  refine o_add S (a := i) (b := 2) dL_law_854 ?_
  refine o_sld S hG hXs hbl hL (by omega) dL_law_855 ?_
  refine o_cVi S (rest := []) (c_X3_select l G ad s.heap.size f9 cd K V sz th pl dn (xs (i + 1)) (xs (i + 2)) hM9 hR.hW hR.1) (cwV 2 S.2.2.2.2 gL_law_X3_select rfl rfl rfl (by decide +kernel) ⟨(Nat.le_of_ble_eq_true rfl), (Nat.le_of_ble_eq_true rfl)⟩) hG (by decide) hM9.1 rfl rfl hl.1 rfl (Nat.le_of_ble_eq_true rfl) dL_law_856 ⟨show _ ≤ 600128 by omega, show _ ≤ 7301098 by omega⟩ (fun r10 f10 H locs hp3 hG => ?_)
  have hm : MT G ad f10 k9 r10.toInt64 := m_select (xs (i + 1)) (xs (i + 2)) hX hR hg hp hp3
  obtain ⟨cd9, hcd, rfl, hLV, g9, hg9, hv⟩ := hm
  obtain ⟨th9, cx9, kx9, vx9, px9, dx9, K9, V9, sz9, pl9, dn9, hX9, hM10, hR9⟩ := id hLV
  refine lv_istore (lv' := [(6, .int r10), (5, .int (nI cd9)), (4, .int (nI i)), (3, .ref (ad 83)), (2, .ref (ad 76)), (1, .ref (ad 0)), (0, .ref b)]) S.1 S.2.1 dL_law_859 hl (by decide) rfl (fun ls hl => ?_)
  refine lv_aload_n S.1 S.2.1 dL_law_861 rfl (lv_at hl 4 rfl) ?_
  refine o_cVi S (rest := []) (c_X3_thrown l G ad s.heap.size f10 cd9 K9 V9 sz9 th9 pl9 dn9 hM10) (cwV 0 S.2.2.2.2 gL_law_X3_thrown rfl rfl rfl (by decide +kernel) ⟨(Nat.le_of_ble_eq_true rfl), (Nat.le_of_ble_eq_true rfl)⟩) hG (by decide) hM10.1 rfl rfl hl.1 rfl (Nat.le_of_ble_eq_true rfl) dL_law_862 ⟨show _ ≤ 600128 by omega, show _ ≤ 7301098 by omega⟩ (fun r11 f11 H locs hp4 hG => ?_)
  obtain ⟨rfl, rfl⟩ := hp4
  refine lv_iload S.1 S.2.1 dL_law_865 (lv_at hl 1 rfl) ?_
  refine n_eq S (a := cd9) (b := cd9) (tgt := 872) dL_law_867 (by decide) (by omega) (by omega) (fun _ => ?_) (fun h9 => absurd rfl h9)
  refine lv_iload S.1 S.2.1 dL_law_872 (lv_at hl 1 rfl) ?_
  refine n_if_ne S (a := cd9) (tgt := 889) dL_law_874 (by decide) (by omega) (fun _ => ?_) (fun c0 => ?_)
  · skip
    refine lv_goto (tgt := 1628) S.1 S.2.1 dL_law_889 (by decide) ?_
    have k7 := kk _ _ _ _ _ _ hLV hg9 hG (lv_sub hl [2, 3, 4, 5, 6] rfl)
    exact W.widen (by omega) (by omega) k7
  · skip
    refine lv_aload_n S.1 S.2.1 dL_law_877 rfl (lv_at hl 3 rfl) ?_
    refine lv_iconst (v := nI 0) S.1 S.2.1 dL_law_878 (by decide) ?_
    refine o_lald S hG (j := 0) (by decide) hg9 (by decide) dL_law_879 (kk := ?_)
    refine lv_iload S.1 S.2.1 dL_law_880 (lv_at hl 0 rfl) ?_
    refine lv_i2l (v := r10.toInt64) S.1 S.2.1 dL_law_882 rfl ?_
    refine W.lcmp S.1 S.2.1 dL_law_883 ?_
    refine lv_if_eq (tgt := 889) S.1 S.2.1 dL_law_884 (by decide) (fun _ => ?_) (fun h9 => absurd ((lg_cmp_eq _ _).mpr (hv c0)) h9)
    refine lv_goto (tgt := 1628) S.1 S.2.1 dL_law_889 (by decide) ?_
    have k7 := kk _ _ _ _ _ _ hLV hg9 hG (lv_sub hl [2, 3, 4, 5, 6] rfl)
    exact W.widen (by omega) (by omega) k7

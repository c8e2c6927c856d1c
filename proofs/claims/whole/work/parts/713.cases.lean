set_option maxHeartbeats 4000000 in
set_option maxRecDepth 100000 in
theorem lc_next {p : Program} {l : Launch} {e : Env} {s : State} {m : MethodId} {below : List Frame} {meth : Method} {c : Code} {Q : State → Prop} {b L : Nat} {xs : Nat → Int32} {G : Gx} {ad : Nat → Nat} {f : Nat → va_E} {H : Heap} {locs : List Loc} {ls : Array Slot} {i cells slots cd : Nat} {g : Nat → Int64} (hst : l.stackTraces = false) (S : CallFix p m c cL_law 8 s #[Value.ref b] wsL_law RL) (hXs : va_X b L xs s s.heap) (hbl : b < s.heap.size) (hL : L ≤ 384) (hLV : LV G ad f cd) (hg : f 83 = eJ G 1 g) (hG : ov_dy G 84 ad s.heap.size s f H locs) (hi : i + 6 ≤ L) (hl : lv_has ls 8 [(4, .int (nI i)), (3, .ref (ad 83)), (2, .ref (ad 76)), (1, .ref (ad 0)), (0, .ref b)]) (hc : cells + 8 ≤ 600128) (hs : slots + 64 ≤ 7301098) (kk : lw_K p l e s m b below meth c Q G ad i cells slots) : W p l e room_1 s m #[Value.ref b] below meth c H locs cells slots Q (F0 m 1379 ls []) := by
  obtain ⟨th, cx, kx, vx, px, dx, K, V, sz, pl, dn, hX, hM, hR⟩ := hLV
  refine lv_aload_n S.1 S.2.1 dL_law_1379 rfl (lv_at hl 3 rfl) ?_
  refine lv_aload_n S.1 S.2.1 dL_law_1380 rfl (lv_at hl 4 rfl) ?_
  refine lv_iload S.1 S.2.1 dL_law_1381 (lv_at hl 0 rfl) ?_
  refine lv_iconst (v := nI 1) S.1 S.2.1 dL_law_1383 (by decide) ?_
  refine o_add S (a := i) (b := 1) dL_law_1384 ?_
  refine o_sld S hG hXs hbl hL (by omega) dL_law_1385 ?_
  refine lv_aload_n S.1 S.2.1 dL_law_1386 rfl (lv_at hl 1 rfl) ?_
  refine o_cSW S (rest := []) (h_L_next l G ad s.heap.size f (xs (i + 1)) _ _ (c_X2_next l hst G ad s.heap.size f th cx kx vx px dx (xs (i + 1)) hX hR.2.2.1) hX.1 (fun r f' h => (h.1 83 (by decide)).trans hg) (fun E h => h.imp And.left And.left)) (vx_cwSW 3 S.2.2.2.2 gL_law_L_next rfl rfl rfl (by decide +kernel) ⟨(Nat.le_of_ble_eq_true rfl), (Nat.le_of_ble_eq_true rfl)⟩) hG rfl hl.1 rfl (Nat.le_of_ble_eq_true rfl) dL_law_1387 ⟨show _ ≤ 600128 by omega, show _ ≤ 7301098 by omega⟩ (fun k9 f9 H locs hp hG => ?_)
  have hM9 := hM.keep (hp_k2 (val := (fun w9 : Int32 => w9.toInt64)) hp (fun w f1 h => h.1))
  refine lv_istore (lv' := [(5, .int k9), (4, .int (nI i)), (3, .ref (ad 83)), (2, .ref (ad 76)), (1, .ref (ad 0)), (0, .ref b)]) S.1 S.2.1 dL_law_1390 hl (by decide) rfl (fun ls hl => ?_)
  refine lv_aload_n S.1 S.2.1 dL_law_1392 rfl (lv_at hl 3 rfl) ?_
  refine lv_aload_n S.1 S.2.1 dL_law_1393 rfl (lv_at hl 5 rfl) ?_
  refine lv_iload S.1 S.2.1 dL_law_1394 (lv_at hl 1 rfl) ?_
  refine lv_iconst (v := nI 1) S.1 S.2.1 dL_law_1396 (by decide) ?_
  refine o_add S (a := i) (b := 1) dL_law_1397 ?_
  refine o_sld S hG hXs hbl hL (by omega) dL_law_1398 ?_
  refine o_cVi S (rest := []) (c_X3_next l G ad s.heap.size f9 cd K V sz th pl dn (xs (i + 1)) hM9 hR.hW hR.1 hR.hC) (cwV 1 S.2.2.2.2 gL_law_X3_next rfl rfl rfl (by decide +kernel) ⟨(Nat.le_of_ble_eq_true rfl), (Nat.le_of_ble_eq_true rfl)⟩) hG (by decide) hM9.1 rfl rfl hl.1 rfl (Nat.le_of_ble_eq_true rfl) dL_law_1399 ⟨show _ ≤ 600128 by omega, show _ ≤ 7301098 by omega⟩ (fun r10 f10 H locs hp3 hG => ?_)
  have hm : MT G ad f10 k9 r10.toInt64 := m_next (xs (i + 1)) hX hR hg hp hp3
  obtain ⟨cd9, hcd, rfl, hLV, g9, hg9, hv⟩ := hm
  obtain ⟨th9, cx9, kx9, vx9, px9, dx9, K9, V9, sz9, pl9, dn9, hX9, hM10, hR9⟩ := id hLV
  refine lv_istore (lv' := [(6, .int r10), (5, .int (nI cd9)), (4, .int (nI i)), (3, .ref (ad 83)), (2, .ref (ad 76)), (1, .ref (ad 0)), (0, .ref b)]) S.1 S.2.1 dL_law_1402 hl (by decide) rfl (fun ls hl => ?_)
  refine lv_aload_n S.1 S.2.1 dL_law_1404 rfl (lv_at hl 4 rfl) ?_
  refine o_cVi S (rest := []) (c_X3_thrown l G ad s.heap.size f10 cd9 K9 V9 sz9 th9 pl9 dn9 hM10) (cwV 0 S.2.2.2.2 gL_law_X3_thrown rfl rfl rfl (by decide +kernel) ⟨(Nat.le_of_ble_eq_true rfl), (Nat.le_of_ble_eq_true rfl)⟩) hG (by decide) hM10.1 rfl rfl hl.1 rfl (Nat.le_of_ble_eq_true rfl) dL_law_1405 ⟨show _ ≤ 600128 by omega, show _ ≤ 7301098 by omega⟩ (fun r11 f11 H locs hp4 hG => ?_)
  obtain ⟨rfl, rfl⟩ := hp4
  refine lv_iload S.1 S.2.1 dL_law_1408 (lv_at hl 1 rfl) ?_
  refine n_eq S (a := cd9) (b := cd9) (tgt := 1415) dL_law_1410 (by decide) (by omega) (by omega) (fun _ => ?_) (fun h9 => absurd rfl h9)
  refine lv_iload S.1 S.2.1 dL_law_1415 (lv_at hl 1 rfl) ?_
  refine n_if_ne S (a := cd9) (tgt := 1432) dL_law_1417 (by decide) (by omega) (fun _ => ?_) (fun c0 => ?_)
  · skip
    refine lv_goto (tgt := 1628) S.1 S.2.1 dL_law_1432 (by decide) ?_
    have k7 := kk _ _ _ _ _ _ hLV hg9 hG (lv_sub hl [2, 3, 4, 5, 6] rfl)
    exact W.widen (by omega) (by omega) k7
  · skip
    refine lv_aload_n S.1 S.2.1 dL_law_1420 rfl (lv_at hl 3 rfl) ?_
    refine lv_iconst (v := nI 0) S.1 S.2.1 dL_law_1421 (by decide) ?_
    refine o_lald S hG (j := 0) (by decide) hg9 (by decide) dL_law_1422 (kk := ?_)
    refine lv_iload S.1 S.2.1 dL_law_1423 (lv_at hl 0 rfl) ?_
    refine lv_i2l (v := r10.toInt64) S.1 S.2.1 dL_law_1425 rfl ?_
    refine W.lcmp S.1 S.2.1 dL_law_1426 ?_
    refine lv_if_eq (tgt := 1432) S.1 S.2.1 dL_law_1427 (by decide) (fun _ => ?_) (fun h9 => absurd ((lg_cmp_eq _ _).mpr (hv c0)) h9)
    refine lv_goto (tgt := 1628) S.1 S.2.1 dL_law_1432 (by decide) ?_
    have k7 := kk _ _ _ _ _ _ hLV hg9 hG (lv_sub hl [2, 3, 4, 5, 6] rfl)
    exact W.widen (by omega) (by omega) k7

set_option maxHeartbeats 4000000 in
set_option maxRecDepth 100000 in
theorem lc_skip {p : Program} {l : Launch} {e : Env} {s : State} {m : MethodId} {below : List Frame} {meth : Method} {c : Code} {Q : State → Prop} {b L : Nat} {xs : Nat → Int32} {G : Gx} {ad : Nat → Nat} {f : Nat → va_E} {H : Heap} {locs : List Loc} {ls : Array Slot} {i cells slots cd : Nat} {g : Nat → Int64} (hst : l.stackTraces = false) (S : CallFix p m c cL_law 8 s #[Value.ref b] wsL_law RL) (hXs : va_X b L xs s s.heap) (hbl : b < s.heap.size) (hL : L ≤ 384) (hLV : LV G ad f cd) (hg : f 83 = eJ G 1 g) (hG : ov_dy G 84 ad s.heap.size s f H locs) (hi : i + 6 ≤ L) (hl : lv_has ls 8 [(4, .int (nI i)), (3, .ref (ad 83)), (2, .ref (ad 76)), (1, .ref (ad 0)), (0, .ref b)]) (hc : cells + 8 ≤ 600128) (hs : slots + 64 ≤ 7301098) (kk : lw_K p l e s m b below meth c Q G ad i cells slots) : W p l e room_1 s m #[Value.ref b] below meth c H locs cells slots Q (F0 m 1435 ls []) := by
  obtain ⟨th, cx, kx, vx, px, dx, K, V, sz, pl, dn, hX, hM, hR⟩ := hLV
  refine lv_aload_n S.1 S.2.1 dL_law_1435 rfl (lv_at hl 3 rfl) ?_
  refine lv_aload_n S.1 S.2.1 dL_law_1436 rfl (lv_at hl 4 rfl) ?_
  refine lv_iload S.1 S.2.1 dL_law_1437 (lv_at hl 0 rfl) ?_
  refine lv_iconst (v := nI 1) S.1 S.2.1 dL_law_1439 (by decide) ?_
  refine o_add S (a := i) (b := 1) dL_law_1440 ?_
  refine o_sld S hG hXs hbl hL (by omega) dL_law_1441 ?_
  refine lv_aload_n S.1 S.2.1 dL_law_1442 rfl (lv_at hl 4 rfl) ?_
  refine lv_iload S.1 S.2.1 dL_law_1443 (lv_at hl 0 rfl) ?_
  refine lv_iconst (v := nI 2) S.1 S.2.1 dL_law_1445 (by decide) ?_
  refine o_add S (a := i) (b := 2) dL_law_1446 ?_
  refine o_sld S hG hXs hbl hL (by omega) dL_law_1447 ?_
  refine lv_aload_n S.1 S.2.1 dL_law_1448 rfl (lv_at hl 1 rfl) ?_
  refine o_cSW S (rest := []) (h_L_skip l G ad s.heap.size f (xs (i + 1)) (xs (i + 2)) _ _ (c_X2_skip l hst G ad s.heap.size f th cx kx vx px dx (xs (i + 1)) (xs (i + 2)) hX hR.2.2.1 hR.hC9) hX.1 (fun r f' h => (h.1 83 (by decide)).trans hg) (fun E h => h.imp And.left And.left)) (vx_cwSW 4 S.2.2.2.2 gL_law_L_skip rfl rfl rfl (by decide +kernel) ⟨(Nat.le_of_ble_eq_true rfl), (Nat.le_of_ble_eq_true rfl)⟩) hG rfl hl.1 rfl (Nat.le_of_ble_eq_true rfl) dL_law_1449 ⟨show _ ≤ 600128 by omega, show _ ≤ 7301098 by omega⟩ (fun k9 f9 H locs hp hG => ?_)
  have hM9 := hM.keep (hp_k2 (val := (fun w9 : Int32 => w9.toInt64)) hp (fun w f1 h => h.1))
  refine lv_istore (lv' := [(5, .int k9), (4, .int (nI i)), (3, .ref (ad 83)), (2, .ref (ad 76)), (1, .ref (ad 0)), (0, .ref b)]) S.1 S.2.1 dL_law_1452 hl (by decide) rfl (fun ls hl => ?_)
  refine lv_aload_n S.1 S.2.1 dL_law_1454 rfl (lv_at hl 3 rfl) ?_
  refine lv_aload_n S.1 S.2.1 dL_law_1455 rfl (lv_at hl 5 rfl) ?_
  refine lv_iload S.1 S.2.1 dL_law_1456 (lv_at hl 1 rfl) ?_
  refine lv_iconst (v := nI 1) S.1 S.2.1 dL_law_1458 (by decide) ?_
  refine o_add S (a := i) (b := 1) dL_law_1459 ?_
  refine o_sld S hG hXs hbl hL (by omega) dL_law_1460 ?_
  refine lv_aload_n S.1 S.2.1 dL_law_1461 rfl (lv_at hl 5 rfl) ?_
  refine lv_iload S.1 S.2.1 dL_law_1462 (lv_at hl 1 rfl) ?_
  refine lv_iconst (v := nI 2) S.1 S.2.1 dL_law_1464 (by decide) ?_
  refine o_add S (a := i) (b := 2) dL_law_1465 ?_
  refine o_sld S hG hXs hbl hL (by omega) dL_law_1466 ?_
  refine o_cVi S (rest := []) (c_X3_skip l G ad s.heap.size f9 cd K V sz th pl dn (xs (i + 1)) (xs (i + 2)) hM9 hR.hW hR.1 hR.hC) (cwV 2 S.2.2.2.2 gL_law_X3_skip rfl rfl rfl (by decide +kernel) ⟨(Nat.le_of_ble_eq_true rfl), (Nat.le_of_ble_eq_true rfl)⟩) hG (by decide) hM9.1 rfl rfl hl.1 rfl (Nat.le_of_ble_eq_true rfl) dL_law_1467 ⟨show _ ≤ 600128 by omega, show _ ≤ 7301098 by omega⟩ (fun r10 f10 H locs hp3 hG => ?_)
  have hm : MT G ad f10 k9 r10.toInt64 := m_skip (xs (i + 1)) (xs (i + 2)) hX hR hg hp hp3
  obtain ⟨cd9, hcd, rfl, hLV, g9, hg9, hv⟩ := hm
  obtain ⟨th9, cx9, kx9, vx9, px9, dx9, K9, V9, sz9, pl9, dn9, hX9, hM10, hR9⟩ := id hLV
  refine lv_istore (lv' := [(6, .int r10), (5, .int (nI cd9)), (4, .int (nI i)), (3, .ref (ad 83)), (2, .ref (ad 76)), (1, .ref (ad 0)), (0, .ref b)]) S.1 S.2.1 dL_law_1470 hl (by decide) rfl (fun ls hl => ?_)
  refine lv_aload_n S.1 S.2.1 dL_law_1472 rfl (lv_at hl 4 rfl) ?_
  refine o_cVi S (rest := []) (c_X3_thrown l G ad s.heap.size f10 cd9 K9 V9 sz9 th9 pl9 dn9 hM10) (cwV 0 S.2.2.2.2 gL_law_X3_thrown rfl rfl rfl (by decide +kernel) ⟨(Nat.le_of_ble_eq_true rfl), (Nat.le_of_ble_eq_true rfl)⟩) hG (by decide) hM10.1 rfl rfl hl.1 rfl (Nat.le_of_ble_eq_true rfl) dL_law_1473 ⟨show _ ≤ 600128 by omega, show _ ≤ 7301098 by omega⟩ (fun r11 f11 H locs hp4 hG => ?_)
  obtain ⟨rfl, rfl⟩ := hp4
  refine lv_iload S.1 S.2.1 dL_law_1476 (lv_at hl 1 rfl) ?_
  refine n_eq S (a := cd9) (b := cd9) (tgt := 1483) dL_law_1478 (by decide) (by omega) (by omega) (fun _ => ?_) (fun h9 => absurd rfl h9)
  refine lv_iload S.1 S.2.1 dL_law_1483 (lv_at hl 1 rfl) ?_
  refine n_if_ne S (a := cd9) (tgt := 1500) dL_law_1485 (by decide) (by omega) (fun _ => ?_) (fun c0 => ?_)
  · skip
    refine lv_goto (tgt := 1628) S.1 S.2.1 dL_law_1500 (by decide) ?_
    have k7 := kk _ _ _ _ _ _ hLV hg9 hG (lv_sub hl [2, 3, 4, 5, 6] rfl)
    exact W.widen (by omega) (by omega) k7
  · skip
    refine lv_aload_n S.1 S.2.1 dL_law_1488 rfl (lv_at hl 3 rfl) ?_
    refine lv_iconst (v := nI 0) S.1 S.2.1 dL_law_1489 (by decide) ?_
    refine o_lald S hG (j := 0) (by decide) hg9 (by decide) dL_law_1490 (kk := ?_)
    refine lv_iload S.1 S.2.1 dL_law_1491 (lv_at hl 0 rfl) ?_
    refine lv_i2l (v := r10.toInt64) S.1 S.2.1 dL_law_1493 rfl ?_
    refine W.lcmp S.1 S.2.1 dL_law_1494 ?_
    refine lv_if_eq (tgt := 1500) S.1 S.2.1 dL_law_1495 (by decide) (fun _ => ?_) (fun h9 => absurd ((lg_cmp_eq _ _).mpr (hv c0)) h9)
    refine lv_goto (tgt := 1628) S.1 S.2.1 dL_law_1500 (by decide) ?_
    have k7 := kk _ _ _ _ _ _ hLV hg9 hG (lv_sub hl [2, 3, 4, 5, 6] rfl)
    exact W.widen (by omega) (by omega) k7

set_option maxHeartbeats 4000000 in
set_option maxRecDepth 100000 in
theorem lc_peek {p : Program} {l : Launch} {e : Env} {s : State} {m : MethodId} {below : List Frame} {meth : Method} {c : Code} {Q : State → Prop} {b L : Nat} {xs : Nat → Int32} {G : Gx} {ad : Nat → Nat} {f : Nat → va_E} {H : Heap} {locs : List Loc} {ls : Array Slot} {i cells slots cd : Nat} {g : Nat → Int64} (hst : l.stackTraces = false) (S : CallFix p m c cL_law 8 s #[Value.ref b] wsL_law RL) (hXs : va_X b L xs s s.heap) (hbl : b < s.heap.size) (hL : L ≤ 384) (hLV : LV G ad f cd) (hg : f 83 = eJ G 1 g) (hG : ov_dy G 84 ad s.heap.size s f H locs) (hi : i + 6 ≤ L) (hl : lv_has ls 8 [(4, .int (nI i)), (3, .ref (ad 83)), (2, .ref (ad 76)), (1, .ref (ad 0)), (0, .ref b)]) (hc : cells + 8 ≤ 600128) (hs : slots + 64 ≤ 7301098) (kk : lw_K p l e s m b below meth c Q G ad i cells slots) : W p l e room_1 s m #[Value.ref b] below meth c H locs cells slots Q (F0 m 1503 ls []) := by
  obtain ⟨th, cx, kx, vx, px, dx, K, V, sz, pl, dn, hX, hM, hR⟩ := hLV
  refine lv_aload_n S.1 S.2.1 dL_law_1503 rfl (lv_at hl 3 rfl) ?_
  refine lv_aload_n S.1 S.2.1 dL_law_1504 rfl (lv_at hl 4 rfl) ?_
  refine lv_iload S.1 S.2.1 dL_law_1505 (lv_at hl 0 rfl) ?_
  refine lv_iconst (v := nI 1) S.1 S.2.1 dL_law_1507 (by decide) ?_
  refine o_add S (a := i) (b := 1) dL_law_1508 ?_
  refine o_sld S hG hXs hbl hL (by omega) dL_law_1509 ?_
  refine lv_aload_n S.1 S.2.1 dL_law_1510 rfl (lv_at hl 1 rfl) ?_
  refine o_cSW S (rest := []) (h_L_peek l G ad s.heap.size f (xs (i + 1)) _ _ (c_X2_peek l hst G ad s.heap.size f th cx kx vx px dx (xs (i + 1)) hX hR.2.2.1) hX.1 (fun r f' h => by rw [← h.1]; exact hg) (fun E h => h.imp And.left And.left)) (vx_cwSW 3 S.2.2.2.2 gL_law_L_peek rfl rfl rfl (by decide +kernel) ⟨(Nat.le_of_ble_eq_true rfl), (Nat.le_of_ble_eq_true rfl)⟩) hG rfl hl.1 rfl (Nat.le_of_ble_eq_true rfl) dL_law_1511 ⟨show _ ≤ 600128 by omega, show _ ≤ 7301098 by omega⟩ (fun k9 f9 H locs hp hG => ?_)
  have hM9 := hM.keep (hp_k2 (val := (fun w9 : Int32 => w9.toInt64)) hp (fun w f1 h => by rw [← h.1]; exact OnX.rf))
  refine lv_istore (lv' := [(5, .int k9), (4, .int (nI i)), (3, .ref (ad 83)), (2, .ref (ad 76)), (1, .ref (ad 0)), (0, .ref b)]) S.1 S.2.1 dL_law_1514 hl (by decide) rfl (fun ls hl => ?_)
  refine lv_aload_n S.1 S.2.1 dL_law_1516 rfl (lv_at hl 3 rfl) ?_
  refine lv_aload_n S.1 S.2.1 dL_law_1517 rfl (lv_at hl 5 rfl) ?_
  refine lv_iload S.1 S.2.1 dL_law_1518 (lv_at hl 1 rfl) ?_
  refine lv_iconst (v := nI 1) S.1 S.2.1 dL_law_1520 (by decide) ?_
  refine o_add S (a := i) (b := 1) dL_law_1521 ?_
  refine o_sld S hG hXs hbl hL (by omega) dL_law_1522 ?_
  refine o_cVi S (rest := []) (c_X3_peek l G ad s.heap.size f9 cd K V sz th pl dn (xs (i + 1)) hM9 hR.hW hR.1 hR.hC) (cwV 1 S.2.2.2.2 gL_law_X3_peek rfl rfl rfl (by decide +kernel) ⟨(Nat.le_of_ble_eq_true rfl), (Nat.le_of_ble_eq_true rfl)⟩) hG (by decide) hM9.1 rfl rfl hl.1 rfl (Nat.le_of_ble_eq_true rfl) dL_law_1523 ⟨show _ ≤ 600128 by omega, show _ ≤ 7301098 by omega⟩ (fun r10 f10 H locs hp3 hG => ?_)
  have hm : MT G ad f10 k9 r10.toInt64 := m_peek (xs (i + 1)) hX hR hg hp hp3
  obtain ⟨cd9, hcd, rfl, hLV, g9, hg9, hv⟩ := hm
  obtain ⟨th9, cx9, kx9, vx9, px9, dx9, K9, V9, sz9, pl9, dn9, hX9, hM10, hR9⟩ := id hLV
  refine lv_istore (lv' := [(6, .int r10), (5, .int (nI cd9)), (4, .int (nI i)), (3, .ref (ad 83)), (2, .ref (ad 76)), (1, .ref (ad 0)), (0, .ref b)]) S.1 S.2.1 dL_law_1526 hl (by decide) rfl (fun ls hl => ?_)
  refine lv_aload_n S.1 S.2.1 dL_law_1528 rfl (lv_at hl 4 rfl) ?_
  refine o_cVi S (rest := []) (c_X3_thrown l G ad s.heap.size f10 cd9 K9 V9 sz9 th9 pl9 dn9 hM10) (cwV 0 S.2.2.2.2 gL_law_X3_thrown rfl rfl rfl (by decide +kernel) ⟨(Nat.le_of_ble_eq_true rfl), (Nat.le_of_ble_eq_true rfl)⟩) hG (by decide) hM10.1 rfl rfl hl.1 rfl (Nat.le_of_ble_eq_true rfl) dL_law_1529 ⟨show _ ≤ 600128 by omega, show _ ≤ 7301098 by omega⟩ (fun r11 f11 H locs hp4 hG => ?_)
  obtain ⟨rfl, rfl⟩ := hp4
  refine lv_iload S.1 S.2.1 dL_law_1532 (lv_at hl 1 rfl) ?_
  refine n_eq S (a := cd9) (b := cd9) (tgt := 1539) dL_law_1534 (by decide) (by omega) (by omega) (fun _ => ?_) (fun h9 => absurd rfl h9)
  refine lv_iload S.1 S.2.1 dL_law_1539 (lv_at hl 1 rfl) ?_
  refine n_if_ne S (a := cd9) (tgt := 1556) dL_law_1541 (by decide) (by omega) (fun _ => ?_) (fun c0 => ?_)
  · skip
    refine lv_goto (tgt := 1628) S.1 S.2.1 dL_law_1556 (by decide) ?_
    have k7 := kk _ _ _ _ _ _ hLV hg9 hG (lv_sub hl [2, 3, 4, 5, 6] rfl)
    exact W.widen (by omega) (by omega) k7
  · skip
    refine lv_aload_n S.1 S.2.1 dL_law_1544 rfl (lv_at hl 3 rfl) ?_
    refine lv_iconst (v := nI 0) S.1 S.2.1 dL_law_1545 (by decide) ?_
    refine o_lald S hG (j := 0) (by decide) hg9 (by decide) dL_law_1546 (kk := ?_)
    refine lv_iload S.1 S.2.1 dL_law_1547 (lv_at hl 0 rfl) ?_
    refine lv_i2l (v := r10.toInt64) S.1 S.2.1 dL_law_1549 rfl ?_
    refine W.lcmp S.1 S.2.1 dL_law_1550 ?_
    refine lv_if_eq (tgt := 1556) S.1 S.2.1 dL_law_1551 (by decide) (fun _ => ?_) (fun h9 => absurd ((lg_cmp_eq _ _).mpr (hv c0)) h9)
    refine lv_goto (tgt := 1628) S.1 S.2.1 dL_law_1556 (by decide) ?_
    have k7 := kk _ _ _ _ _ _ hLV hg9 hG (lv_sub hl [2, 3, 4, 5, 6] rfl)
    exact W.widen (by omega) (by omega) k7

set_option maxHeartbeats 4000000 in
set_option maxRecDepth 100000 in
theorem lc_close {p : Program} {l : Launch} {e : Env} {s : State} {m : MethodId} {below : List Frame} {meth : Method} {c : Code} {Q : State → Prop} {b L : Nat} {xs : Nat → Int32} {G : Gx} {ad : Nat → Nat} {f : Nat → va_E} {H : Heap} {locs : List Loc} {ls : Array Slot} {i cells slots cd : Nat} {g : Nat → Int64} (hst : l.stackTraces = false) (S : CallFix p m c cL_law 8 s #[Value.ref b] wsL_law RL) (hXs : va_X b L xs s s.heap) (hbl : b < s.heap.size) (hL : L ≤ 384) (hLV : LV G ad f cd) (hg : f 83 = eJ G 1 g) (hG : ov_dy G 84 ad s.heap.size s f H locs) (hi : i + 6 ≤ L) (hl : lv_has ls 8 [(4, .int (nI i)), (3, .ref (ad 83)), (2, .ref (ad 76)), (1, .ref (ad 0)), (0, .ref b)]) (hc : cells + 8 ≤ 600128) (hs : slots + 64 ≤ 7301098) (kk : lw_K p l e s m b below meth c Q G ad i cells slots) : W p l e room_1 s m #[Value.ref b] below meth c H locs cells slots Q (F0 m 1559 ls []) := by
  obtain ⟨th, cx, kx, vx, px, dx, K, V, sz, pl, dn, hX, hM, hR⟩ := hLV
  refine lv_aload_n S.1 S.2.1 dL_law_1559 rfl (lv_at hl 3 rfl) ?_
  refine lv_aload_n S.1 S.2.1 dL_law_1560 rfl (lv_at hl 4 rfl) ?_
  refine lv_iload S.1 S.2.1 dL_law_1561 (lv_at hl 0 rfl) ?_
  refine lv_iconst (v := nI 1) S.1 S.2.1 dL_law_1563 (by decide) ?_
  refine o_add S (a := i) (b := 1) dL_law_1564 ?_
  refine o_sld S hG hXs hbl hL (by omega) dL_law_1565 ?_
  refine lv_aload_n S.1 S.2.1 dL_law_1566 rfl (lv_at hl 1 rfl) ?_
  refine o_cSW S (rest := []) (h_L_close l G ad s.heap.size f (xs (i + 1)) _ _ (c_X2_close l hst G ad s.heap.size f th cx kx vx px dx (xs (i + 1)) hX hR.2.2.1) hX.1 (fun r f' h => (h.1 83 (by decide)).trans hg) (fun E h => h.1)) (vx_cwSW 3 S.2.2.2.2 gL_law_L_close rfl rfl rfl (by decide +kernel) ⟨(Nat.le_of_ble_eq_true rfl), (Nat.le_of_ble_eq_true rfl)⟩) hG rfl hl.1 rfl (Nat.le_of_ble_eq_true rfl) dL_law_1567 ⟨show _ ≤ 600128 by omega, show _ ≤ 7301098 by omega⟩ (fun k9 f9 H locs hp hG => ?_)
  have hM9 := hM.keep (hp_k1 (val := (fun w9 : Int32 => w9.toInt64)) hp (fun w f1 h => h.1))
  refine lv_istore (lv' := [(5, .int k9), (4, .int (nI i)), (3, .ref (ad 83)), (2, .ref (ad 76)), (1, .ref (ad 0)), (0, .ref b)]) S.1 S.2.1 dL_law_1570 hl (by decide) rfl (fun ls hl => ?_)
  refine lv_aload_n S.1 S.2.1 dL_law_1572 rfl (lv_at hl 3 rfl) ?_
  refine lv_aload_n S.1 S.2.1 dL_law_1573 rfl (lv_at hl 5 rfl) ?_
  refine lv_iload S.1 S.2.1 dL_law_1574 (lv_at hl 1 rfl) ?_
  refine lv_iconst (v := nI 1) S.1 S.2.1 dL_law_1576 (by decide) ?_
  refine o_add S (a := i) (b := 1) dL_law_1577 ?_
  refine o_sld S hG hXs hbl hL (by omega) dL_law_1578 ?_
  refine o_cVi S (rest := []) (c_X3_close l G ad s.heap.size f9 cd K V sz th pl dn (xs (i + 1)) hM9 hR.hW hR.1) (cwV 1 S.2.2.2.2 gL_law_X3_close rfl rfl rfl (by decide +kernel) ⟨(Nat.le_of_ble_eq_true rfl), (Nat.le_of_ble_eq_true rfl)⟩) hG (by decide) hM9.1 rfl rfl hl.1 rfl (Nat.le_of_ble_eq_true rfl) dL_law_1579 ⟨show _ ≤ 600128 by omega, show _ ≤ 7301098 by omega⟩ (fun r10 f10 H locs hp3 hG => ?_)
  have hm : MT G ad f10 k9 r10.toInt64 := m_close (xs (i + 1)) hX hR hg (hp.imp_right Or.inl) hp3
  obtain ⟨cd9, hcd, rfl, hLV, g9, hg9, hv⟩ := hm
  obtain ⟨th9, cx9, kx9, vx9, px9, dx9, K9, V9, sz9, pl9, dn9, hX9, hM10, hR9⟩ := id hLV
  refine lv_istore (lv' := [(6, .int r10), (5, .int (nI cd9)), (4, .int (nI i)), (3, .ref (ad 83)), (2, .ref (ad 76)), (1, .ref (ad 0)), (0, .ref b)]) S.1 S.2.1 dL_law_1582 hl (by decide) rfl (fun ls hl => ?_)
  refine lv_aload_n S.1 S.2.1 dL_law_1584 rfl (lv_at hl 4 rfl) ?_
  refine o_cVi S (rest := []) (c_X3_thrown l G ad s.heap.size f10 cd9 K9 V9 sz9 th9 pl9 dn9 hM10) (cwV 0 S.2.2.2.2 gL_law_X3_thrown rfl rfl rfl (by decide +kernel) ⟨(Nat.le_of_ble_eq_true rfl), (Nat.le_of_ble_eq_true rfl)⟩) hG (by decide) hM10.1 rfl rfl hl.1 rfl (Nat.le_of_ble_eq_true rfl) dL_law_1585 ⟨show _ ≤ 600128 by omega, show _ ≤ 7301098 by omega⟩ (fun r11 f11 H locs hp4 hG => ?_)
  obtain ⟨rfl, rfl⟩ := hp4
  refine lv_iload S.1 S.2.1 dL_law_1588 (lv_at hl 1 rfl) ?_
  refine n_eq S (a := cd9) (b := cd9) (tgt := 1595) dL_law_1590 (by decide) (by omega) (by omega) (fun _ => ?_) (fun h9 => absurd rfl h9)
  refine lv_iload S.1 S.2.1 dL_law_1595 (lv_at hl 1 rfl) ?_
  refine n_if_ne S (a := cd9) (tgt := 1612) dL_law_1597 (by decide) (by omega) (fun _ => ?_) (fun c0 => ?_)
  · skip
    refine lv_goto (tgt := 1628) S.1 S.2.1 dL_law_1612 (by decide) ?_
    have k7 := kk _ _ _ _ _ _ hLV hg9 hG (lv_sub hl [2, 3, 4, 5, 6] rfl)
    exact W.widen (by omega) (by omega) k7
  · skip
    refine lv_aload_n S.1 S.2.1 dL_law_1600 rfl (lv_at hl 3 rfl) ?_
    refine lv_iconst (v := nI 0) S.1 S.2.1 dL_law_1601 (by decide) ?_
    refine o_lald S hG (j := 0) (by decide) hg9 (by decide) dL_law_1602 (kk := ?_)
    refine lv_iload S.1 S.2.1 dL_law_1603 (lv_at hl 0 rfl) ?_
    refine lv_i2l (v := r10.toInt64) S.1 S.2.1 dL_law_1605 rfl ?_
    refine W.lcmp S.1 S.2.1 dL_law_1606 ?_
    refine lv_if_eq (tgt := 1612) S.1 S.2.1 dL_law_1607 (by decide) (fun _ => ?_) (fun h9 => absurd ((lg_cmp_eq _ _).mpr (hv c0)) h9)
    refine lv_goto (tgt := 1628) S.1 S.2.1 dL_law_1612 (by decide) ?_
    have k7 := kk _ _ _ _ _ _ hLV hg9 hG (lv_sub hl [2, 3, 4, 5, 6] rfl)
    exact W.widen (by omega) (by omega) k7

set_option maxHeartbeats 4000000 in
set_option maxRecDepth 100000 in
theorem lc_astray {p : Program} {l : Launch} {e : Env} {s : State} {m : MethodId} {below : List Frame} {meth : Method} {c : Code} {Q : State → Prop} {b L : Nat} {xs : Nat → Int32} {G : Gx} {ad : Nat → Nat} {f : Nat → va_E} {H : Heap} {locs : List Loc} {ls : Array Slot} {i cells slots cd : Nat} {g : Nat → Int64} (hst : l.stackTraces = false) (S : CallFix p m c cL_law 8 s #[Value.ref b] wsL_law RL) (hXs : va_X b L xs s s.heap) (hbl : b < s.heap.size) (hL : L ≤ 384) (hLV : LV G ad f cd) (hg : f 83 = eJ G 1 g) (hG : ov_dy G 84 ad s.heap.size s f H locs) (hi : i + 6 ≤ L) (hl : lv_has ls 8 [(4, .int (nI i)), (3, .ref (ad 83)), (2, .ref (ad 76)), (1, .ref (ad 0)), (0, .ref b)]) (hc : cells + 8 ≤ 600128) (hs : slots + 64 ≤ 7301098) (kk : lw_K p l e s m b below meth c Q G ad i cells slots) : W p l e room_1 s m #[Value.ref b] below meth c H locs cells slots Q (F0 m 1615 ls []) := by
  obtain ⟨th, cx, kx, vx, px, dx, K, V, sz, pl, dn, hX, hM, hR⟩ := hLV
  refine lv_aload_n S.1 S.2.1 dL_law_1615 rfl (lv_at hl 3 rfl) ?_
  refine o_cVi S (rest := []) (c_X2_astray l G ad s.heap.size f th cx kx vx px dx hX hR.2.2.1 hR.2.2.2.1 hR.1 hR.2.2.2.2.2.1) (cwV 0 S.2.2.2.2 gL_law_X2_astray rfl rfl rfl (by decide +kernel) ⟨(Nat.le_of_ble_eq_true rfl), (Nat.le_of_ble_eq_true rfl)⟩) hG (by decide) hX.1 rfl rfl hl.1 rfl (Nat.le_of_ble_eq_true rfl) dL_law_1616 ⟨show _ ≤ 600128 by omega, show _ ≤ 7301098 by omega⟩ (fun r9 f9 H locs hp hG => ?_)
  have hM9 : MB G ad f9 cd K V sz th pl dn := hM.keep (fun c h1 h2 => by rw [← hp.1])
  refine lv_aload_n S.1 S.2.1 dL_law_1619 rfl (lv_at hl 2 rfl) ?_
  refine o_cVi S (rest := [.int r9]) (c_X3_astray l G ad s.heap.size f9 cd K V sz th pl dn hM9) (cwV 0 S.2.2.2.2 gL_law_X3_astray rfl rfl rfl (by decide +kernel) ⟨(Nat.le_of_ble_eq_true rfl), (Nat.le_of_ble_eq_true rfl)⟩) hG (by decide) hM9.1 rfl rfl hl.1 rfl (Nat.le_of_ble_eq_true rfl) dL_law_1620 ⟨show _ ≤ 600128 by omega, show _ ≤ 7301098 by omega⟩ (fun r10 f10 H locs hp3 hG => ?_)
  obtain ⟨er, hLV, g9, hg9⟩ := m_astray hX hR hg hp hp3
  refine lv_icmp_eq (tgt := 1628) S.1 S.2.1 dL_law_1623 (by decide) (fun _ => ?_) (fun h9 => absurd er h9)
  have k7 := kk _ _ _ _ _ _ hLV hg9 hG (lv_sub hl [0, 1, 2, 3, 4] rfl)
  exact W.widen (by omega) (by omega) k7

set_option maxHeartbeats 4000000 in
set_option maxRecDepth 100000 in
theorem lc_near {p : Program} {l : Launch} {e : Env} {s : State} {m : MethodId} {below : List Frame} {meth : Method} {c : Code} {Q : State → Prop} {b L : Nat} {xs : Nat → Int32} {G : Gx} {ad : Nat → Nat} {f : Nat → va_E} {H : Heap} {locs : List Loc} {ls : Array Slot} {i cells slots cd : Nat} {g : Nat → Int64} (hst : l.stackTraces = false) (S : CallFix p m c cL_law 8 s #[Value.ref b] wsL_law RL) (hXs : va_X b L xs s s.heap) (hbl : b < s.heap.size) (hL : L ≤ 384) (hLV : LV G ad f cd) (hg : f 83 = eJ G 1 g) (hG : ov_dy G 84 ad s.heap.size s f H locs) (hi : i + 6 ≤ L) (hl : lv_has ls 8 [(4, .int (nI i)), (3, .ref (ad 83)), (2, .ref (ad 76)), (1, .ref (ad 0)), (0, .ref b)]) (hc : cells + 8 ≤ 600128) (hs : slots + 64 ≤ 7301098) (kk : lw_K p l e s m b below meth c Q G ad i cells slots) : W p l e room_1 s m #[Value.ref b] below meth c H locs cells slots Q (F0 m 892 ls []) := by
  obtain ⟨th, cx, kx, vx, px, dx, K, V, sz, pl, dn, hX, hM, hR⟩ := hLV
  by_cases hz : xs (i + 3) = 0
  · skip
    refine lv_aload_n S.1 S.2.1 dL_law_892 rfl (lv_at hl 3 rfl) ?_
    refine lv_aload_n S.1 S.2.1 dL_law_893 rfl (lv_at hl 4 rfl) ?_
    refine lv_iload S.1 S.2.1 dL_law_894 (lv_at hl 0 rfl) ?_
    refine lv_iconst (v := nI 1) S.1 S.2.1 dL_law_896 (by decide) ?_
    refine o_add S (a := i) (b := 1) dL_law_897 ?_
    refine o_sld S hG hXs hbl hL (by omega) dL_law_898 ?_
    refine lv_aload_n S.1 S.2.1 dL_law_899 rfl (lv_at hl 4 rfl) ?_
    refine lv_iload S.1 S.2.1 dL_law_900 (lv_at hl 0 rfl) ?_
    refine lv_iconst (v := nI 2) S.1 S.2.1 dL_law_902 (by decide) ?_
    refine o_add S (a := i) (b := 2) dL_law_903 ?_
    refine o_sld S hG hXs hbl hL (by omega) dL_law_904 ?_
    refine lv_aload_n S.1 S.2.1 dL_law_905 rfl (lv_at hl 4 rfl) ?_
    refine lv_iload S.1 S.2.1 dL_law_906 (lv_at hl 0 rfl) ?_
    refine lv_iconst (v := nI 3) S.1 S.2.1 dL_law_908 (by decide) ?_
    refine o_add S (a := i) (b := 3) dL_law_909 ?_
    refine o_sld S hG hXs hbl hL (by omega) dL_law_910 ?_
    refine lv_if_eq (tgt := 918) S.1 S.2.1 dL_law_911 (by decide) (fun _ => ?_) (fun h9 => absurd hz h9)
    refine lv_iconst (v := nI 0) S.1 S.2.1 dL_law_918 (by decide) ?_
    refine lv_aload_n S.1 S.2.1 dL_law_919 rfl (lv_at hl 1 rfl) ?_
    refine o_cSW S (rest := []) (h_L_near l G ad s.heap.size f (xs (i + 1)) (xs (i + 2)) false _ _ (c_X2_near l hst G ad s.heap.size f th cx kx vx px dx (xs (i + 1)) (xs (i + 2)) false hX hR.2.2.1) hX.1 (fun r f' h => by rw [← h.1]; exact hg) (fun E h => h.imp And.left And.left)) (vx_cwSW 5 S.2.2.2.2 gL_law_L_near rfl rfl rfl (by decide +kernel) ⟨(Nat.le_of_ble_eq_true rfl), (Nat.le_of_ble_eq_true rfl)⟩) hG rfl hl.1 rfl (Nat.le_of_ble_eq_true rfl) dL_law_920 ⟨show _ ≤ 600128 by omega, show _ ≤ 7301098 by omega⟩ (fun k9 f9 H locs hp hG => ?_)
    have hM9 := hM.keep (hp_k2 (val := (fun w9 : Int32 => w9.toInt64)) hp (fun w f1 h => by rw [← h.1]; exact OnX.rf))
    refine lv_istore (lv' := [(5, .int k9), (4, .int (nI i)), (3, .ref (ad 83)), (2, .ref (ad 76)), (1, .ref (ad 0)), (0, .ref b)]) S.1 S.2.1 dL_law_923 hl (by decide) rfl (fun ls hl => ?_)
    refine lv_aload_n S.1 S.2.1 dL_law_925 rfl (lv_at hl 3 rfl) ?_
    refine lv_aload_n S.1 S.2.1 dL_law_926 rfl (lv_at hl 5 rfl) ?_
    refine lv_iload S.1 S.2.1 dL_law_927 (lv_at hl 1 rfl) ?_
    refine lv_iconst (v := nI 1) S.1 S.2.1 dL_law_929 (by decide) ?_
    refine o_add S (a := i) (b := 1) dL_law_930 ?_
    refine o_sld S hG hXs hbl hL (by omega) dL_law_931 ?_
    refine lv_aload_n S.1 S.2.1 dL_law_932 rfl (lv_at hl 5 rfl) ?_
    refine lv_iload S.1 S.2.1 dL_law_933 (lv_at hl 1 rfl) ?_
    refine lv_iconst (v := nI 2) S.1 S.2.1 dL_law_935 (by decide) ?_
    refine o_add S (a := i) (b := 2) dL_law_936 ?_
    refine o_sld S hG hXs hbl hL (by omega) dL_law_937 ?_
    refine lv_aload_n S.1 S.2.1 dL_law_938 rfl (lv_at hl 5 rfl) ?_
    refine lv_iload S.1 S.2.1 dL_law_939 (lv_at hl 1 rfl) ?_
    refine lv_iconst (v := nI 3) S.1 S.2.1 dL_law_941 (by decide) ?_
    refine o_add S (a := i) (b := 3) dL_law_942 ?_
    refine o_sld S hG hXs hbl hL (by omega) dL_law_943 ?_
    refine lv_if_eq (tgt := 951) S.1 S.2.1 dL_law_944 (by decide) (fun _ => ?_) (fun h9 => absurd hz h9)
    refine lv_iconst (v := nI 0) S.1 S.2.1 dL_law_951 (by decide) ?_
    refine o_cVi S (rest := []) (c_X3_near l G ad s.heap.size f9 cd K V sz th pl dn (xs (i + 1)) (xs (i + 2)) false hM9 hR.hW hR.1) (cwV 3 S.2.2.2.2 gL_law_X3_near rfl rfl rfl (by decide +kernel) ⟨(Nat.le_of_ble_eq_true rfl), (Nat.le_of_ble_eq_true rfl)⟩) hG (by decide) hM9.1 rfl rfl hl.1 rfl (Nat.le_of_ble_eq_true rfl) dL_law_952 ⟨show _ ≤ 600128 by omega, show _ ≤ 7301098 by omega⟩ (fun r10 f10 H locs hp3 hG => ?_)
    have hm : MT G ad f10 k9 r10.toInt64 := m_near (xs (i + 1)) (xs (i + 2)) false hX hR hg hp hp3
    obtain ⟨cd9, hcd, rfl, hLV, g9, hg9, hv⟩ := hm
    obtain ⟨th9, cx9, kx9, vx9, px9, dx9, K9, V9, sz9, pl9, dn9, hX9, hM10, hR9⟩ := id hLV
    refine lv_istore (lv' := [(6, .int r10), (5, .int (nI cd9)), (4, .int (nI i)), (3, .ref (ad 83)), (2, .ref (ad 76)), (1, .ref (ad 0)), (0, .ref b)]) S.1 S.2.1 dL_law_955 hl (by decide) rfl (fun ls hl => ?_)
    refine lv_aload_n S.1 S.2.1 dL_law_957 rfl (lv_at hl 4 rfl) ?_
    refine o_cVi S (rest := []) (c_X3_thrown l G ad s.heap.size f10 cd9 K9 V9 sz9 th9 pl9 dn9 hM10) (cwV 0 S.2.2.2.2 gL_law_X3_thrown rfl rfl rfl (by decide +kernel) ⟨(Nat.le_of_ble_eq_true rfl), (Nat.le_of_ble_eq_true rfl)⟩) hG (by decide) hM10.1 rfl rfl hl.1 rfl (Nat.le_of_ble_eq_true rfl) dL_law_958 ⟨show _ ≤ 600128 by omega, show _ ≤ 7301098 by omega⟩ (fun r11 f11 H locs hp4 hG => ?_)
    obtain ⟨rfl, rfl⟩ := hp4
    refine lv_iload S.1 S.2.1 dL_law_961 (lv_at hl 1 rfl) ?_
    refine n_eq S (a := cd9) (b := cd9) (tgt := 968) dL_law_963 (by decide) (by omega) (by omega) (fun _ => ?_) (fun h9 => absurd rfl h9)
    refine lv_iload S.1 S.2.1 dL_law_968 (lv_at hl 1 rfl) ?_
    refine n_if_ne S (a := cd9) (tgt := 985) dL_law_970 (by decide) (by omega) (fun _ => ?_) (fun c0 => ?_)
    · skip
      refine lv_goto (tgt := 1628) S.1 S.2.1 dL_law_985 (by decide) ?_
      have k7 := kk _ _ _ _ _ _ hLV hg9 hG (lv_sub hl [2, 3, 4, 5, 6] rfl)
      exact W.widen (by omega) (by omega) k7
    · skip
      refine lv_aload_n S.1 S.2.1 dL_law_973 rfl (lv_at hl 3 rfl) ?_
      refine lv_iconst (v := nI 0) S.1 S.2.1 dL_law_974 (by decide) ?_
      refine o_lald S hG (j := 0) (by decide) hg9 (by decide) dL_law_975 (kk := ?_)
      refine lv_iload S.1 S.2.1 dL_law_976 (lv_at hl 0 rfl) ?_
      refine lv_i2l (v := r10.toInt64) S.1 S.2.1 dL_law_978 rfl ?_
      refine W.lcmp S.1 S.2.1 dL_law_979 ?_
      refine lv_if_eq (tgt := 985) S.1 S.2.1 dL_law_980 (by decide) (fun _ => ?_) (fun h9 => absurd ((lg_cmp_eq _ _).mpr (hv c0)) h9)
      refine lv_goto (tgt := 1628) S.1 S.2.1 dL_law_985 (by decide) ?_
      have k7 := kk _ _ _ _ _ _ hLV hg9 hG (lv_sub hl [2, 3, 4, 5, 6] rfl)
      exact W.widen (by omega) (by omega) k7
  · skip
    refine lv_aload_n S.1 S.2.1 dL_law_892 rfl (lv_at hl 3 rfl) ?_
    refine lv_aload_n S.1 S.2.1 dL_law_893 rfl (lv_at hl 4 rfl) ?_
    refine lv_iload S.1 S.2.1 dL_law_894 (lv_at hl 0 rfl) ?_
    refine lv_iconst (v := nI 1) S.1 S.2.1 dL_law_896 (by decide) ?_
    refine o_add S (a := i) (b := 1) dL_law_897 ?_
    refine o_sld S hG hXs hbl hL (by omega) dL_law_898 ?_
    refine lv_aload_n S.1 S.2.1 dL_law_899 rfl (lv_at hl 4 rfl) ?_
    refine lv_iload S.1 S.2.1 dL_law_900 (lv_at hl 0 rfl) ?_
    refine lv_iconst (v := nI 2) S.1 S.2.1 dL_law_902 (by decide) ?_
    refine o_add S (a := i) (b := 2) dL_law_903 ?_
    refine o_sld S hG hXs hbl hL (by omega) dL_law_904 ?_
    refine lv_aload_n S.1 S.2.1 dL_law_905 rfl (lv_at hl 4 rfl) ?_
    refine lv_iload S.1 S.2.1 dL_law_906 (lv_at hl 0 rfl) ?_
    refine lv_iconst (v := nI 3) S.1 S.2.1 dL_law_908 (by decide) ?_
    refine o_add S (a := i) (b := 3) dL_law_909 ?_
    refine o_sld S hG hXs hbl hL (by omega) dL_law_910 ?_
    refine lv_if_eq (tgt := 918) S.1 S.2.1 dL_law_911 (by decide) (fun h9 => absurd h9 hz) (fun _ => ?_)
    refine lv_iconst (v := nI 1) S.1 S.2.1 dL_law_914 (by decide) ?_
    refine lv_goto (tgt := 919) S.1 S.2.1 dL_law_915 (by decide) ?_
    refine lv_aload_n S.1 S.2.1 dL_law_919 rfl (lv_at hl 1 rfl) ?_
    refine o_cSW S (rest := []) (h_L_near l G ad s.heap.size f (xs (i + 1)) (xs (i + 2)) true _ _ (c_X2_near l hst G ad s.heap.size f th cx kx vx px dx (xs (i + 1)) (xs (i + 2)) true hX hR.2.2.1) hX.1 (fun r f' h => by rw [← h.1]; exact hg) (fun E h => h.imp And.left And.left)) (vx_cwSW 5 S.2.2.2.2 gL_law_L_near rfl rfl rfl (by decide +kernel) ⟨(Nat.le_of_ble_eq_true rfl), (Nat.le_of_ble_eq_true rfl)⟩) hG rfl hl.1 rfl (Nat.le_of_ble_eq_true rfl) dL_law_920 ⟨show _ ≤ 600128 by omega, show _ ≤ 7301098 by omega⟩ (fun k9 f9 H locs hp hG => ?_)
    have hM9 := hM.keep (hp_k2 (val := (fun w9 : Int32 => w9.toInt64)) hp (fun w f1 h => by rw [← h.1]; exact OnX.rf))
    refine lv_istore (lv' := [(5, .int k9), (4, .int (nI i)), (3, .ref (ad 83)), (2, .ref (ad 76)), (1, .ref (ad 0)), (0, .ref b)]) S.1 S.2.1 dL_law_923 hl (by decide) rfl (fun ls hl => ?_)
    refine lv_aload_n S.1 S.2.1 dL_law_925 rfl (lv_at hl 3 rfl) ?_
    refine lv_aload_n S.1 S.2.1 dL_law_926 rfl (lv_at hl 5 rfl) ?_
    refine lv_iload S.1 S.2.1 dL_law_927 (lv_at hl 1 rfl) ?_
    refine lv_iconst (v := nI 1) S.1 S.2.1 dL_law_929 (by decide) ?_
    refine o_add S (a := i) (b := 1) dL_law_930 ?_
    refine o_sld S hG hXs hbl hL (by omega) dL_law_931 ?_
    refine lv_aload_n S.1 S.2.1 dL_law_932 rfl (lv_at hl 5 rfl) ?_
    refine lv_iload S.1 S.2.1 dL_law_933 (lv_at hl 1 rfl) ?_
    refine lv_iconst (v := nI 2) S.1 S.2.1 dL_law_935 (by decide) ?_
    refine o_add S (a := i) (b := 2) dL_law_936 ?_
    refine o_sld S hG hXs hbl hL (by omega) dL_law_937 ?_
    refine lv_aload_n S.1 S.2.1 dL_law_938 rfl (lv_at hl 5 rfl) ?_
    refine lv_iload S.1 S.2.1 dL_law_939 (lv_at hl 1 rfl) ?_
    refine lv_iconst (v := nI 3) S.1 S.2.1 dL_law_941 (by decide) ?_
    refine o_add S (a := i) (b := 3) dL_law_942 ?_
    refine o_sld S hG hXs hbl hL (by omega) dL_law_943 ?_
    refine lv_if_eq (tgt := 951) S.1 S.2.1 dL_law_944 (by decide) (fun h9 => absurd h9 hz) (fun _ => ?_)
    refine lv_iconst (v := nI 1) S.1 S.2.1 dL_law_947 (by decide) ?_
    refine lv_goto (tgt := 952) S.1 S.2.1 dL_law_948 (by decide) ?_
    refine o_cVi S (rest := []) (c_X3_near l G ad s.heap.size f9 cd K V sz th pl dn (xs (i + 1)) (xs (i + 2)) true hM9 hR.hW hR.1) (cwV 3 S.2.2.2.2 gL_law_X3_near rfl rfl rfl (by decide +kernel) ⟨(Nat.le_of_ble_eq_true rfl), (Nat.le_of_ble_eq_true rfl)⟩) hG (by decide) hM9.1 rfl rfl hl.1 rfl (Nat.le_of_ble_eq_true rfl) dL_law_952 ⟨show _ ≤ 600128 by omega, show _ ≤ 7301098 by omega⟩ (fun r10 f10 H locs hp3 hG => ?_)
    have hm : MT G ad f10 k9 r10.toInt64 := m_near (xs (i + 1)) (xs (i + 2)) true hX hR hg hp hp3
    obtain ⟨cd9, hcd, rfl, hLV, g9, hg9, hv⟩ := hm
    obtain ⟨th9, cx9, kx9, vx9, px9, dx9, K9, V9, sz9, pl9, dn9, hX9, hM10, hR9⟩ := id hLV
    refine lv_istore (lv' := [(6, .int r10), (5, .int (nI cd9)), (4, .int (nI i)), (3, .ref (ad 83)), (2, .ref (ad 76)), (1, .ref (ad 0)), (0, .ref b)]) S.1 S.2.1 dL_law_955 hl (by decide) rfl (fun ls hl => ?_)
    refine lv_aload_n S.1 S.2.1 dL_law_957 rfl (lv_at hl 4 rfl) ?_
    refine o_cVi S (rest := []) (c_X3_thrown l G ad s.heap.size f10 cd9 K9 V9 sz9 th9 pl9 dn9 hM10) (cwV 0 S.2.2.2.2 gL_law_X3_thrown rfl rfl rfl (by decide +kernel) ⟨(Nat.le_of_ble_eq_true rfl), (Nat.le_of_ble_eq_true rfl)⟩) hG (by decide) hM10.1 rfl rfl hl.1 rfl (Nat.le_of_ble_eq_true rfl) dL_law_958 ⟨show _ ≤ 600128 by omega, show _ ≤ 7301098 by omega⟩ (fun r11 f11 H locs hp4 hG => ?_)
    obtain ⟨rfl, rfl⟩ := hp4
    refine lv_iload S.1 S.2.1 dL_law_961 (lv_at hl 1 rfl) ?_
    refine n_eq S (a := cd9) (b := cd9) (tgt := 968) dL_law_963 (by decide) (by omega) (by omega) (fun _ => ?_) (fun h9 => absurd rfl h9)
    refine lv_iload S.1 S.2.1 dL_law_968 (lv_at hl 1 rfl) ?_
    refine n_if_ne S (a := cd9) (tgt := 985) dL_law_970 (by decide) (by omega) (fun _ => ?_) (fun c0 => ?_)
    · skip
      refine lv_goto (tgt := 1628) S.1 S.2.1 dL_law_985 (by decide) ?_
      have k7 := kk _ _ _ _ _ _ hLV hg9 hG (lv_sub hl [2, 3, 4, 5, 6] rfl)
      exact W.widen (by omega) (by omega) k7
    · skip
      refine lv_aload_n S.1 S.2.1 dL_law_973 rfl (lv_at hl 3 rfl) ?_
      refine lv_iconst (v := nI 0) S.1 S.2.1 dL_law_974 (by decide) ?_
      refine o_lald S hG (j := 0) (by decide) hg9 (by decide) dL_law_975 (kk := ?_)
      refine lv_iload S.1 S.2.1 dL_law_976 (lv_at hl 0 rfl) ?_
      refine lv_i2l (v := r10.toInt64) S.1 S.2.1 dL_law_978 rfl ?_
      refine W.lcmp S.1 S.2.1 dL_law_979 ?_
      refine lv_if_eq (tgt := 985) S.1 S.2.1 dL_law_980 (by decide) (fun _ => ?_) (fun h9 => absurd ((lg_cmp_eq _ _).mpr (hv c0)) h9)
      refine lv_goto (tgt := 1628) S.1 S.2.1 dL_law_985 (by decide) ?_
      have k7 := kk _ _ _ _ _ _ hLV hg9 hG (lv_sub hl [2, 3, 4, 5, 6] rfl)
      exact W.widen (by omega) (by omega) k7

set_option maxHeartbeats 4000000 in
set_option maxRecDepth 100000 in
theorem lc_sum {p : Program} {l : Launch} {e : Env} {s : State} {m : MethodId} {below : List Frame} {meth : Method} {c : Code} {Q : State → Prop} {b L : Nat} {xs : Nat → Int32} {G : Gx} {ad : Nat → Nat} {f : Nat → va_E} {H : Heap} {locs : List Loc} {ls : Array Slot} {i cells slots cd : Nat} {g : Nat → Int64} (hst : l.stackTraces = false) (S : CallFix p m c cL_law 8 s #[Value.ref b] wsL_law RL) (hXs : va_X b L xs s s.heap) (hbl : b < s.heap.size) (hL : L ≤ 384) (hLV : LV G ad f cd) (hg : f 83 = eJ G 1 g) (hG : ov_dy G 84 ad s.heap.size s f H locs) (hi : i + 6 ≤ L) (hl : lv_has ls 8 [(4, .int (nI i)), (3, .ref (ad 83)), (2, .ref (ad 76)), (1, .ref (ad 0)), (0, .ref b)]) (hc : cells + 8 ≤ 600128) (hs : slots + 64 ≤ 7301098) (kk : lw_K p l e s m b below meth c Q G ad i cells slots) : W p l e room_1 s m #[Value.ref b] below meth c H locs cells slots Q (F0 m 988 ls []) := by
  obtain ⟨th, cx, kx, vx, px, dx, K, V, sz, pl, dn, hX, hM, hR⟩ := hLV
  refine lv_aload_n S.1 S.2.1 dL_law_988 rfl (lv_at hl 3 rfl) ?_
  refine lv_aload_n S.1 S.2.1 dL_law_989 rfl (lv_at hl 4 rfl) ?_
  refine lv_iload S.1 S.2.1 dL_law_990 (lv_at hl 0 rfl) ?_
  refine lv_iconst (v := nI 1) S.1 S.2.1 dL_law_992 (by decide) ?_
  refine o_add S (a := i) (b := 1) dL_law_993 ?_
  refine o_sld S hG hXs hbl hL (by omega) dL_law_994 ?_
  refine lv_aload_n S.1 S.2.1 dL_law_995 rfl (lv_at hl 4 rfl) ?_
  refine lv_iload S.1 S.2.1 dL_law_996 (lv_at hl 0 rfl) ?_
  refine lv_iconst (v := nI 2) S.1 S.2.1 dL_law_998 (by decide) ?_
  refine o_add S (a := i) (b := 2) dL_law_999 ?_
  refine o_sld S hG hXs hbl hL (by omega) dL_law_1000 ?_
  refine lv_aload_n S.1 S.2.1 dL_law_1001 rfl (lv_at hl 4 rfl) ?_
  refine lv_iload S.1 S.2.1 dL_law_1002 (lv_at hl 0 rfl) ?_
  refine lv_iconst (v := nI 3) S.1 S.2.1 dL_law_1004 (by decide) ?_
  refine o_add S (a := i) (b := 3) dL_law_1005 ?_
  refine o_sld S hG hXs hbl hL (by omega) dL_law_1006 ?_
  refine lv_aload_n S.1 S.2.1 dL_law_1007 rfl (lv_at hl 1 rfl) ?_
  refine o_cSW S (rest := []) (h_L_sum l G ad s.heap.size f (xs (i + 1)) (xs (i + 2)) (xs (i + 3)) _ _ (c_X2_sum l hst G ad s.heap.size f th cx kx vx px dx (xs (i + 1)) (xs (i + 2)) (xs (i + 3)) hX hR.2.2.1) hX.1 (fun r f' h => by rw [← h.1]; exact hg) (fun E h => h.1)) (vx_cwSW 5 S.2.2.2.2 gL_law_L_sum rfl rfl rfl (by decide +kernel) ⟨(Nat.le_of_ble_eq_true rfl), (Nat.le_of_ble_eq_true rfl)⟩) hG rfl hl.1 rfl (Nat.le_of_ble_eq_true rfl) dL_law_1008 ⟨show _ ≤ 600128 by omega, show _ ≤ 7301098 by omega⟩ (fun k9 f9 H locs hp hG => ?_)
  have hM9 := hM.keep (hp_k1 (val := (fun w9 : Int64 => w9)) hp (fun w f1 h => by rw [← h.1]; exact OnX.rf))
  refine lv_istore (lv' := [(5, .int k9), (4, .int (nI i)), (3, .ref (ad 83)), (2, .ref (ad 76)), (1, .ref (ad 0)), (0, .ref b)]) S.1 S.2.1 dL_law_1011 hl (by decide) rfl (fun ls hl => ?_)
  refine lv_aload_n S.1 S.2.1 dL_law_1013 rfl (lv_at hl 3 rfl) ?_
  refine lv_aload_n S.1 S.2.1 dL_law_1014 rfl (lv_at hl 5 rfl) ?_
  refine lv_iload S.1 S.2.1 dL_law_1015 (lv_at hl 1 rfl) ?_
  refine lv_iconst (v := nI 1) S.1 S.2.1 dL_law_1017 (by decide) ?_
  refine o_add S (a := i) (b := 1) dL_law_1018 ?_
  refine o_sld S hG hXs hbl hL (by omega) dL_law_1019 ?_
  refine lv_aload_n S.1 S.2.1 dL_law_1020 rfl (lv_at hl 5 rfl) ?_
  refine lv_iload S.1 S.2.1 dL_law_1021 (lv_at hl 1 rfl) ?_
  refine lv_iconst (v := nI 2) S.1 S.2.1 dL_law_1023 (by decide) ?_
  refine o_add S (a := i) (b := 2) dL_law_1024 ?_
  refine o_sld S hG hXs hbl hL (by omega) dL_law_1025 ?_
  refine lv_aload_n S.1 S.2.1 dL_law_1026 rfl (lv_at hl 5 rfl) ?_
  refine lv_iload S.1 S.2.1 dL_law_1027 (lv_at hl 1 rfl) ?_
  refine lv_iconst (v := nI 3) S.1 S.2.1 dL_law_1029 (by decide) ?_
  refine o_add S (a := i) (b := 3) dL_law_1030 ?_
  refine o_sld S hG hXs hbl hL (by omega) dL_law_1031 ?_
  refine o_cVl S (rest := []) (c_X3_sum l G ad s.heap.size f9 cd K V sz th pl dn (xs (i + 1)) (xs (i + 2)) (xs (i + 3)) hM9 hR.hW hR.1) (cwV 3 S.2.2.2.2 gL_law_X3_sum rfl rfl rfl (by decide +kernel) ⟨(Nat.le_of_ble_eq_true rfl), (Nat.le_of_ble_eq_true rfl)⟩) hG (by decide) hM9.1 rfl rfl hl.1 rfl (Nat.le_of_ble_eq_true rfl) dL_law_1032 ⟨show _ ≤ 600128 by omega, show _ ≤ 7301098 by omega⟩ (fun r10 f10 H locs hp3 hG => ?_)
  have hm : MT G ad f10 k9 r10 := m_sum (xs (i + 1)) (xs (i + 2)) (xs (i + 3)) hX hR hg (hp.imp_right Or.inl) hp3
  obtain ⟨cd9, hcd, rfl, hLV, g9, hg9, hv⟩ := hm
  obtain ⟨th9, cx9, kx9, vx9, px9, dx9, K9, V9, sz9, pl9, dn9, hX9, hM10, hR9⟩ := id hLV
  refine lv_lstore (lv' := [(6, .long r10), (5, .int (nI cd9)), (4, .int (nI i)), (3, .ref (ad 83)), (2, .ref (ad 76)), (1, .ref (ad 0)), (0, .ref b)]) S.1 S.2.1 dL_law_1035 hl (by decide) rfl (fun ls hl => ?_)
  refine lv_aload_n S.1 S.2.1 dL_law_1037 rfl (lv_at hl 4 rfl) ?_
  refine o_cVi S (rest := []) (c_X3_thrown l G ad s.heap.size f10 cd9 K9 V9 sz9 th9 pl9 dn9 hM10) (cwV 0 S.2.2.2.2 gL_law_X3_thrown rfl rfl rfl (by decide +kernel) ⟨(Nat.le_of_ble_eq_true rfl), (Nat.le_of_ble_eq_true rfl)⟩) hG (by decide) hM10.1 rfl rfl hl.1 rfl (Nat.le_of_ble_eq_true rfl) dL_law_1038 ⟨show _ ≤ 600128 by omega, show _ ≤ 7301098 by omega⟩ (fun r11 f11 H locs hp4 hG => ?_)
  obtain ⟨rfl, rfl⟩ := hp4
  refine lv_iload S.1 S.2.1 dL_law_1041 (lv_at hl 1 rfl) ?_
  refine n_eq S (a := cd9) (b := cd9) (tgt := 1048) dL_law_1043 (by decide) (by omega) (by omega) (fun _ => ?_) (fun h9 => absurd rfl h9)
  refine lv_iload S.1 S.2.1 dL_law_1048 (lv_at hl 1 rfl) ?_
  refine n_if_ne S (a := cd9) (tgt := 1064) dL_law_1050 (by decide) (by omega) (fun _ => ?_) (fun c0 => ?_)
  · skip
    refine lv_goto (tgt := 1628) S.1 S.2.1 dL_law_1064 (by decide) ?_
    have k7 := kk _ _ _ _ _ _ hLV hg9 hG (lv_sub hl [2, 3, 4, 5, 6] rfl)
    exact W.widen (by omega) (by omega) k7
  · skip
    refine lv_aload_n S.1 S.2.1 dL_law_1053 rfl (lv_at hl 3 rfl) ?_
    refine lv_iconst (v := nI 0) S.1 S.2.1 dL_law_1054 (by decide) ?_
    refine o_lald S hG (j := 0) (by decide) hg9 (by decide) dL_law_1055 (kk := ?_)
    refine lv_lload S.1 S.2.1 dL_law_1056 (lv_at hl 0 rfl) ?_
    refine W.lcmp S.1 S.2.1 dL_law_1058 ?_
    refine lv_if_eq (tgt := 1064) S.1 S.2.1 dL_law_1059 (by decide) (fun _ => ?_) (fun h9 => absurd ((lg_cmp_eq _ _).mpr (hv c0)) h9)
    refine lv_goto (tgt := 1628) S.1 S.2.1 dL_law_1064 (by decide) ?_
    have k7 := kk _ _ _ _ _ _ hLV hg9 hG (lv_sub hl [2, 3, 4, 5, 6] rfl)
    exact W.widen (by omega) (by omega) k7

set_option maxHeartbeats 4000000 in
set_option maxRecDepth 100000 in
theorem lc_greatest {p : Program} {l : Launch} {e : Env} {s : State} {m : MethodId} {below : List Frame} {meth : Method} {c : Code} {Q : State → Prop} {b L : Nat} {xs : Nat → Int32} {G : Gx} {ad : Nat → Nat} {f : Nat → va_E} {H : Heap} {locs : List Loc} {ls : Array Slot} {i cells slots cd : Nat} {g : Nat → Int64} (hst : l.stackTraces = false) (S : CallFix p m c cL_law 8 s #[Value.ref b] wsL_law RL) (hXs : va_X b L xs s s.heap) (hbl : b < s.heap.size) (hL : L ≤ 384) (hLV : LV G ad f cd) (hg : f 83 = eJ G 1 g) (hG : ov_dy G 84 ad s.heap.size s f H locs) (hi : i + 6 ≤ L) (hl : lv_has ls 8 [(4, .int (nI i)), (3, .ref (ad 83)), (2, .ref (ad 76)), (1, .ref (ad 0)), (0, .ref b)]) (hc : cells + 8 ≤ 600128) (hs : slots + 64 ≤ 7301098) (kk : lw_K p l e s m b below meth c Q G ad i cells slots) : W p l e room_1 s m #[Value.ref b] below meth c H locs cells slots Q (F0 m 1067 ls []) := by
  obtain ⟨th, cx, kx, vx, px, dx, K, V, sz, pl, dn, hX, hM, hR⟩ := hLV
  refine lv_aload_n S.1 S.2.1 dL_law_1067 rfl (lv_at hl 3 rfl) ?_
  refine lv_aload_n S.1 S.2.1 dL_law_1068 rfl (lv_at hl 4 rfl) ?_
  refine lv_iload S.1 S.2.1 dL_law_1069 (lv_at hl 0 rfl) ?_
  refine lv_iconst (v := nI 1) S.1 S.2.1 dL_law_1071 (by decide) ?_
  refine o_add S (a := i) (b := 1) dL_law_1072 ?_
  refine o_sld S hG hXs hbl hL (by omega) dL_law_1073 ?_
  refine lv_aload_n S.1 S.2.1 dL_law_1074 rfl (lv_at hl 4 rfl) ?_
  refine lv_iload S.1 S.2.1 dL_law_1075 (lv_at hl 0 rfl) ?_
  refine lv_iconst (v := nI 2) S.1 S.2.1 dL_law_1077 (by decide) ?_
  refine o_add S (a := i) (b := 2) dL_law_1078 ?_
  refine o_sld S hG hXs hbl hL (by omega) dL_law_1079 ?_
  refine lv_aload_n S.1 S.2.1 dL_law_1080 rfl (lv_at hl 4 rfl) ?_
  refine lv_iload S.1 S.2.1 dL_law_1081 (lv_at hl 0 rfl) ?_
  refine lv_iconst (v := nI 3) S.1 S.2.1 dL_law_1083 (by decide) ?_
  refine o_add S (a := i) (b := 3) dL_law_1084 ?_
  refine o_sld S hG hXs hbl hL (by omega) dL_law_1085 ?_
  refine lv_aload_n S.1 S.2.1 dL_law_1086 rfl (lv_at hl 1 rfl) ?_
  refine o_cSW S (rest := []) (h_L_greatest l G ad s.heap.size f (xs (i + 1)) (xs (i + 2)) (xs (i + 3)) _ _ (c_X2_greatest l hst G ad s.heap.size f th cx kx vx px dx (xs (i + 1)) (xs (i + 2)) (xs (i + 3)) hX hR.2.2.1) hX.1 (fun r f' h => by rw [← h.1]; exact hg) (fun E h => h.imp And.left And.left)) (vx_cwSW 5 S.2.2.2.2 gL_law_L_greatest rfl rfl rfl (by decide +kernel) ⟨(Nat.le_of_ble_eq_true rfl), (Nat.le_of_ble_eq_true rfl)⟩) hG rfl hl.1 rfl (Nat.le_of_ble_eq_true rfl) dL_law_1087 ⟨show _ ≤ 600128 by omega, show _ ≤ 7301098 by omega⟩ (fun k9 f9 H locs hp hG => ?_)
  have hM9 := hM.keep (hp_k2 (val := (fun w9 : Int32 => w9.toInt64)) hp (fun w f1 h => by rw [← h.1]; exact OnX.rf))
  refine lv_istore (lv' := [(5, .int k9), (4, .int (nI i)), (3, .ref (ad 83)), (2, .ref (ad 76)), (1, .ref (ad 0)), (0, .ref b)]) S.1 S.2.1 dL_law_1090 hl (by decide) rfl (fun ls hl => ?_)
  refine lv_aload_n S.1 S.2.1 dL_law_1092 rfl (lv_at hl 3 rfl) ?_
  refine lv_aload_n S.1 S.2.1 dL_law_1093 rfl (lv_at hl 5 rfl) ?_
  refine lv_iload S.1 S.2.1 dL_law_1094 (lv_at hl 1 rfl) ?_
  refine lv_iconst (v := nI 1) S.1 S.2.1 dL_law_1096 (by decide) ?_
  refine o_add S (a := i) (b := 1) dL_law_1097 ?_
  refine o_sld S hG hXs hbl hL (by omega) dL_law_1098 ?_
  refine lv_aload_n S.1 S.2.1 dL_law_1099 rfl (lv_at hl 5 rfl) ?_
  refine lv_iload S.1 S.2.1 dL_law_1100 (lv_at hl 1 rfl) ?_
  refine lv_iconst (v := nI 2) S.1 S.2.1 dL_law_1102 (by decide) ?_
  refine o_add S (a := i) (b := 2) dL_law_1103 ?_
  refine o_sld S hG hXs hbl hL (by omega) dL_law_1104 ?_
  refine lv_aload_n S.1 S.2.1 dL_law_1105 rfl (lv_at hl 5 rfl) ?_
  refine lv_iload S.1 S.2.1 dL_law_1106 (lv_at hl 1 rfl) ?_
  refine lv_iconst (v := nI 3) S.1 S.2.1 dL_law_1108 (by decide) ?_
  refine o_add S (a := i) (b := 3) dL_law_1109 ?_
  refine o_sld S hG hXs hbl hL (by omega) dL_law_1110 ?_
  refine o_cVi S (rest := []) (c_X3_greatest l G ad s.heap.size f9 cd K V sz th pl dn (xs (i + 1)) (xs (i + 2)) (xs (i + 3)) hM9 hR.hW hR.1) (cwV 3 S.2.2.2.2 gL_law_X3_greatest rfl rfl rfl (by decide +kernel) ⟨(Nat.le_of_ble_eq_true rfl), (Nat.le_of_ble_eq_true rfl)⟩) hG (by decide) hM9.1 rfl rfl hl.1 rfl (Nat.le_of_ble_eq_true rfl) dL_law_1111 ⟨show _ ≤ 600128 by omega, show _ ≤ 7301098 by omega⟩ (fun r10 f10 H locs hp3 hG => ?_)
  have hm : MT G ad f10 k9 r10.toInt64 := m_greatest (xs (i + 1)) (xs (i + 2)) (xs (i + 3)) hX hR hg hp hp3
  obtain ⟨cd9, hcd, rfl, hLV, g9, hg9, hv⟩ := hm
  obtain ⟨th9, cx9, kx9, vx9, px9, dx9, K9, V9, sz9, pl9, dn9, hX9, hM10, hR9⟩ := id hLV
  refine lv_istore (lv' := [(6, .int r10), (5, .int (nI cd9)), (4, .int (nI i)), (3, .ref (ad 83)), (2, .ref (ad 76)), (1, .ref (ad 0)), (0, .ref b)]) S.1 S.2.1 dL_law_1114 hl (by decide) rfl (fun ls hl => ?_)
  refine lv_aload_n S.1 S.2.1 dL_law_1116 rfl (lv_at hl 4 rfl) ?_
  refine o_cVi S (rest := []) (c_X3_thrown l G ad s.heap.size f10 cd9 K9 V9 sz9 th9 pl9 dn9 hM10) (cwV 0 S.2.2.2.2 gL_law_X3_thrown rfl rfl rfl (by decide +kernel) ⟨(Nat.le_of_ble_eq_true rfl), (Nat.le_of_ble_eq_true rfl)⟩) hG (by decide) hM10.1 rfl rfl hl.1 rfl (Nat.le_of_ble_eq_true rfl) dL_law_1117 ⟨show _ ≤ 600128 by omega, show _ ≤ 7301098 by omega⟩ (fun r11 f11 H locs hp4 hG => ?_)
  obtain ⟨rfl, rfl⟩ := hp4
  refine lv_iload S.1 S.2.1 dL_law_1120 (lv_at hl 1 rfl) ?_
  refine n_eq S (a := cd9) (b := cd9) (tgt := 1127) dL_law_1122 (by decide) (by omega) (by omega) (fun _ => ?_) (fun h9 => absurd rfl h9)
  refine lv_iload S.1 S.2.1 dL_law_1127 (lv_at hl 1 rfl) ?_
  refine n_if_ne S (a := cd9) (tgt := 1144) dL_law_1129 (by decide) (by omega) (fun _ => ?_) (fun c0 => ?_)
  · skip
    refine lv_goto (tgt := 1628) S.1 S.2.1 dL_law_1144 (by decide) ?_
    have k7 := kk _ _ _ _ _ _ hLV hg9 hG (lv_sub hl [2, 3, 4, 5, 6] rfl)
    exact W.widen (by omega) (by omega) k7
  · skip
    refine lv_aload_n S.1 S.2.1 dL_law_1132 rfl (lv_at hl 3 rfl) ?_
    refine lv_iconst (v := nI 0) S.1 S.2.1 dL_law_1133 (by decide) ?_
    refine o_lald S hG (j := 0) (by decide) hg9 (by decide) dL_law_1134 (kk := ?_)
    refine lv_iload S.1 S.2.1 dL_law_1135 (lv_at hl 0 rfl) ?_
    refine lv_i2l (v := r10.toInt64) S.1 S.2.1 dL_law_1137 rfl ?_
    refine W.lcmp S.1 S.2.1 dL_law_1138 ?_
    refine lv_if_eq (tgt := 1144) S.1 S.2.1 dL_law_1139 (by decide) (fun _ => ?_) (fun h9 => absurd ((lg_cmp_eq _ _).mpr (hv c0)) h9)
    refine lv_goto (tgt := 1628) S.1 S.2.1 dL_law_1144 (by decide) ?_
    have k7 := kk _ _ _ _ _ _ hLV hg9 hG (lv_sub hl [2, 3, 4, 5, 6] rfl)
    exact W.widen (by omega) (by omega) k7

set_option maxHeartbeats 4000000 in
set_option maxRecDepth 100000 in
theorem lc_differs {p : Program} {l : Launch} {e : Env} {s : State} {m : MethodId} {below : List Frame} {meth : Method} {c : Code} {Q : State → Prop} {b L : Nat} {xs : Nat → Int32} {G : Gx} {ad : Nat → Nat} {f : Nat → va_E} {H : Heap} {locs : List Loc} {ls : Array Slot} {i cells slots cd : Nat} {g : Nat → Int64} (hst : l.stackTraces = false) (S : CallFix p m c cL_law 8 s #[Value.ref b] wsL_law RL) (hXs : va_X b L xs s s.heap) (hbl : b < s.heap.size) (hL : L ≤ 384) (hLV : LV G ad f cd) (hg : f 83 = eJ G 1 g) (hG : ov_dy G 84 ad s.heap.size s f H locs) (hi : i + 6 ≤ L) (hl : lv_has ls 8 [(4, .int (nI i)), (3, .ref (ad 83)), (2, .ref (ad 76)), (1, .ref (ad 0)), (0, .ref b)]) (hc : cells + 8 ≤ 600128) (hs : slots + 64 ≤ 7301098) (kk : lw_K p l e s m b below meth c Q G ad i cells slots) : W p l e room_1 s m #[Value.ref b] below meth c H locs cells slots Q (F0 m 1147 ls []) := by
  obtain ⟨th, cx, kx, vx, px, dx, K, V, sz, pl, dn, hX, hM, hR⟩ := hLV
  refine lv_aload_n S.1 S.2.1 dL_law_1147 rfl (lv_at hl 3 rfl) ?_
  refine lv_aload_n S.1 S.2.1 dL_law_1148 rfl (lv_at hl 4 rfl) ?_
  refine lv_iload S.1 S.2.1 dL_law_1149 (lv_at hl 0 rfl) ?_
  refine lv_iconst (v := nI 1) S.1 S.2.1 dL_law_1151 (by decide) ?_
  refine o_add S (a := i) (b := 1) dL_law_1152 ?_
  refine o_sld S hG hXs hbl hL (by omega) dL_law_1153 ?_
  refine lv_aload_n S.1 S.2.1 dL_law_1154 rfl (lv_at hl 4 rfl) ?_
  refine lv_iload S.1 S.2.1 dL_law_1155 (lv_at hl 0 rfl) ?_
  refine lv_iconst (v := nI 2) S.1 S.2.1 dL_law_1157 (by decide) ?_
  refine o_add S (a := i) (b := 2) dL_law_1158 ?_
  refine o_sld S hG hXs hbl hL (by omega) dL_law_1159 ?_
  refine lv_aload_n S.1 S.2.1 dL_law_1160 rfl (lv_at hl 1 rfl) ?_
  refine o_cSW S (rest := []) (h_L_differs l G ad s.heap.size f (xs (i + 1)) (xs (i + 2)) _ _ (c_X2_differs l hst G ad s.heap.size f th cx kx vx px dx (xs (i + 1)) (xs (i + 2)) hX hR.2.2.1) hX.1 (fun r f' h => by rw [← h.1]; exact hg) (fun E h => h.1)) (vx_cwSW 4 S.2.2.2.2 gL_law_L_differs rfl rfl rfl (by decide +kernel) ⟨(Nat.le_of_ble_eq_true rfl), (Nat.le_of_ble_eq_true rfl)⟩) hG rfl hl.1 rfl (Nat.le_of_ble_eq_true rfl) dL_law_1161 ⟨show _ ≤ 600128 by omega, show _ ≤ 7301098 by omega⟩ (fun k9 f9 H locs hp hG => ?_)
  have hM9 := hM.keep (hp_k1 (val := (fun w9 : Int32 => w9.toInt64)) hp (fun w f1 h => by rw [← h.1]; exact OnX.rf))
  refine lv_istore (lv' := [(5, .int k9), (4, .int (nI i)), (3, .ref (ad 83)), (2, .ref (ad 76)), (1, .ref (ad 0)), (0, .ref b)]) S.1 S.2.1 dL_law_1164 hl (by decide) rfl (fun ls hl => ?_)
  refine lv_aload_n S.1 S.2.1 dL_law_1166 rfl (lv_at hl 3 rfl) ?_
  refine lv_aload_n S.1 S.2.1 dL_law_1167 rfl (lv_at hl 5 rfl) ?_
  refine lv_iload S.1 S.2.1 dL_law_1168 (lv_at hl 1 rfl) ?_
  refine lv_iconst (v := nI 1) S.1 S.2.1 dL_law_1170 (by decide) ?_
  refine o_add S (a := i) (b := 1) dL_law_1171 ?_
  refine o_sld S hG hXs hbl hL (by omega) dL_law_1172 ?_
  refine lv_aload_n S.1 S.2.1 dL_law_1173 rfl (lv_at hl 5 rfl) ?_
  refine lv_iload S.1 S.2.1 dL_law_1174 (lv_at hl 1 rfl) ?_
  refine lv_iconst (v := nI 2) S.1 S.2.1 dL_law_1176 (by decide) ?_
  refine o_add S (a := i) (b := 2) dL_law_1177 ?_
  refine o_sld S hG hXs hbl hL (by omega) dL_law_1178 ?_
  refine o_cVi S (rest := []) (c_X3_differs l G ad s.heap.size f9 cd K V sz th pl dn (xs (i + 1)) (xs (i + 2)) hM9 hR.hW hR.1) (cwV 2 S.2.2.2.2 gL_law_X3_differs rfl rfl rfl (by decide +kernel) ⟨(Nat.le_of_ble_eq_true rfl), (Nat.le_of_ble_eq_true rfl)⟩) hG (by decide) hM9.1 rfl rfl hl.1 rfl (Nat.le_of_ble_eq_true rfl) dL_law_1179 ⟨show _ ≤ 600128 by omega, show _ ≤ 7301098 by omega⟩ (fun r10 f10 H locs hp3 hG => ?_)
  have hm : MT G ad f10 k9 r10.toInt64 := m_differs (xs (i + 1)) (xs (i + 2)) hX hR hg (hp.imp_right Or.inl) hp3
  obtain ⟨cd9, hcd, rfl, hLV, g9, hg9, hv⟩ := hm
  obtain ⟨th9, cx9, kx9, vx9, px9, dx9, K9, V9, sz9, pl9, dn9, hX9, hM10, hR9⟩ := id hLV
  refine lv_istore (lv' := [(6, .int r10), (5, .int (nI cd9)), (4, .int (nI i)), (3, .ref (ad 83)), (2, .ref (ad 76)), (1, .ref (ad 0)), (0, .ref b)]) S.1 S.2.1 dL_law_1182 hl (by decide) rfl (fun ls hl => ?_)
  refine lv_aload_n S.1 S.2.1 dL_law_1184 rfl (lv_at hl 4 rfl) ?_
  refine o_cVi S (rest := []) (c_X3_thrown l G ad s.heap.size f10 cd9 K9 V9 sz9 th9 pl9 dn9 hM10) (cwV 0 S.2.2.2.2 gL_law_X3_thrown rfl rfl rfl (by decide +kernel) ⟨(Nat.le_of_ble_eq_true rfl), (Nat.le_of_ble_eq_true rfl)⟩) hG (by decide) hM10.1 rfl rfl hl.1 rfl (Nat.le_of_ble_eq_true rfl) dL_law_1185 ⟨show _ ≤ 600128 by omega, show _ ≤ 7301098 by omega⟩ (fun r11 f11 H locs hp4 hG => ?_)
  obtain ⟨rfl, rfl⟩ := hp4
  refine lv_iload S.1 S.2.1 dL_law_1188 (lv_at hl 1 rfl) ?_
  refine n_eq S (a := cd9) (b := cd9) (tgt := 1195) dL_law_1190 (by decide) (by omega) (by omega) (fun _ => ?_) (fun h9 => absurd rfl h9)
  refine lv_iload S.1 S.2.1 dL_law_1195 (lv_at hl 1 rfl) ?_
  refine n_if_ne S (a := cd9) (tgt := 1212) dL_law_1197 (by decide) (by omega) (fun _ => ?_) (fun c0 => ?_)
  · skip
    refine lv_goto (tgt := 1628) S.1 S.2.1 dL_law_1212 (by decide) ?_
    have k7 := kk _ _ _ _ _ _ hLV hg9 hG (lv_sub hl [2, 3, 4, 5, 6] rfl)
    exact W.widen (by omega) (by omega) k7
  · skip
    refine lv_aload_n S.1 S.2.1 dL_law_1200 rfl (lv_at hl 3 rfl) ?_
    refine lv_iconst (v := nI 0) S.1 S.2.1 dL_law_1201 (by decide) ?_
    refine o_lald S hG (j := 0) (by decide) hg9 (by decide) dL_law_1202 (kk := ?_)
    refine lv_iload S.1 S.2.1 dL_law_1203 (lv_at hl 0 rfl) ?_
    refine lv_i2l (v := r10.toInt64) S.1 S.2.1 dL_law_1205 rfl ?_
    refine W.lcmp S.1 S.2.1 dL_law_1206 ?_
    refine lv_if_eq (tgt := 1212) S.1 S.2.1 dL_law_1207 (by decide) (fun _ => ?_) (fun h9 => absurd ((lg_cmp_eq _ _).mpr (hv c0)) h9)
    refine lv_goto (tgt := 1628) S.1 S.2.1 dL_law_1212 (by decide) ?_
    have k7 := kk _ _ _ _ _ _ hLV hg9 hG (lv_sub hl [2, 3, 4, 5, 6] rfl)
    exact W.widen (by omega) (by omega) k7

set_option maxHeartbeats 4000000 in
set_option maxRecDepth 100000 in
theorem lc_firstDifference {p : Program} {l : Launch} {e : Env} {s : State} {m : MethodId} {below : List Frame} {meth : Method} {c : Code} {Q : State → Prop} {b L : Nat} {xs : Nat → Int32} {G : Gx} {ad : Nat → Nat} {f : Nat → va_E} {H : Heap} {locs : List Loc} {ls : Array Slot} {i cells slots cd : Nat} {g : Nat → Int64} (hst : l.stackTraces = false) (S : CallFix p m c cL_law 8 s #[Value.ref b] wsL_law RL) (hXs : va_X b L xs s s.heap) (hbl : b < s.heap.size) (hL : L ≤ 384) (hLV : LV G ad f cd) (hg : f 83 = eJ G 1 g) (hG : ov_dy G 84 ad s.heap.size s f H locs) (hi : i + 6 ≤ L) (hl : lv_has ls 8 [(4, .int (nI i)), (3, .ref (ad 83)), (2, .ref (ad 76)), (1, .ref (ad 0)), (0, .ref b)]) (hc : cells + 8 ≤ 600128) (hs : slots + 64 ≤ 7301098) (kk : lw_K p l e s m b below meth c Q G ad i cells slots) : W p l e room_1 s m #[Value.ref b] below meth c H locs cells slots Q (F0 m 1215 ls []) := by
  obtain ⟨th, cx, kx, vx, px, dx, K, V, sz, pl, dn, hX, hM, hR⟩ := hLV
  refine lv_aload_n S.1 S.2.1 dL_law_1215 rfl (lv_at hl 3 rfl) ?_
  refine lv_aload_n S.1 S.2.1 dL_law_1216 rfl (lv_at hl 4 rfl) ?_
  refine lv_iload S.1 S.2.1 dL_law_1217 (lv_at hl 0 rfl) ?_
  refine lv_iconst (v := nI 1) S.1 S.2.1 dL_law_1219 (by decide) ?_
  refine o_add S (a := i) (b := 1) dL_law_1220 ?_
  refine o_sld S hG hXs hbl hL (by omega) dL_law_1221 ?_
  refine lv_aload_n S.1 S.2.1 dL_law_1222 rfl (lv_at hl 4 rfl) ?_
  refine lv_iload S.1 S.2.1 dL_law_1223 (lv_at hl 0 rfl) ?_
  refine lv_iconst (v := nI 2) S.1 S.2.1 dL_law_1225 (by decide) ?_
  refine o_add S (a := i) (b := 2) dL_law_1226 ?_
  refine o_sld S hG hXs hbl hL (by omega) dL_law_1227 ?_
  refine lv_aload_n S.1 S.2.1 dL_law_1228 rfl (lv_at hl 1 rfl) ?_
  refine o_cSW S (rest := []) (h_L_firstDifference l G ad s.heap.size f (xs (i + 1)) (xs (i + 2)) _ _ (c_X2_firstDifference l hst G ad s.heap.size f th cx kx vx px dx (xs (i + 1)) (xs (i + 2)) hX hR.2.2.1) hX.1 (fun r f' h => by rw [← h.1]; exact hg) (fun E h => h.imp And.left And.left)) (vx_cwSW 4 S.2.2.2.2 gL_law_L_firstDifference rfl rfl rfl (by decide +kernel) ⟨(Nat.le_of_ble_eq_true rfl), (Nat.le_of_ble_eq_true rfl)⟩) hG rfl hl.1 rfl (Nat.le_of_ble_eq_true rfl) dL_law_1229 ⟨show _ ≤ 600128 by omega, show _ ≤ 7301098 by omega⟩ (fun k9 f9 H locs hp hG => ?_)
  have hM9 := hM.keep (hp_k2 (val := (fun w9 : Int32 => w9.toInt64)) hp (fun w f1 h => by rw [← h.1]; exact OnX.rf))
  refine lv_istore (lv' := [(5, .int k9), (4, .int (nI i)), (3, .ref (ad 83)), (2, .ref (ad 76)), (1, .ref (ad 0)), (0, .ref b)]) S.1 S.2.1 dL_law_1232 hl (by decide) rfl (fun ls hl => ?_)
  refine lv_aload_n S.1 S.2.1 dL_law_1234 rfl (lv_at hl 3 rfl) ?_
  refine lv_aload_n S.1 S.2.1 dL_law_1235 rfl (lv_at hl 5 rfl) ?_
  refine lv_iload S.1 S.2.1 dL_law_1236 (lv_at hl 1 rfl) ?_
  refine lv_iconst (v := nI 1) S.1 S.2.1 dL_law_1238 (by decide) ?_
  refine o_add S (a := i) (b := 1) dL_law_1239 ?_
  refine o_sld S hG hXs hbl hL (by omega) dL_law_1240 ?_
  refine lv_aload_n S.1 S.2.1 dL_law_1241 rfl (lv_at hl 5 rfl) ?_
  refine lv_iload S.1 S.2.1 dL_law_1242 (lv_at hl 1 rfl) ?_
  refine lv_iconst (v := nI 2) S.1 S.2.1 dL_law_1244 (by decide) ?_
  refine o_add S (a := i) (b := 2) dL_law_1245 ?_
  refine o_sld S hG hXs hbl hL (by omega) dL_law_1246 ?_
  refine o_cVi S (rest := []) (c_X3_firstDifference l G ad s.heap.size f9 cd K V sz th pl dn (xs (i + 1)) (xs (i + 2)) hM9 hR.hW hR.1) (cwV 2 S.2.2.2.2 gL_law_X3_firstDifference rfl rfl rfl (by decide +kernel) ⟨(Nat.le_of_ble_eq_true rfl), (Nat.le_of_ble_eq_true rfl)⟩) hG (by decide) hM9.1 rfl rfl hl.1 rfl (Nat.le_of_ble_eq_true rfl) dL_law_1247 ⟨show _ ≤ 600128 by omega, show _ ≤ 7301098 by omega⟩ (fun r10 f10 H locs hp3 hG => ?_)
  have hm : MT G ad f10 k9 r10.toInt64 := m_firstDifference (xs (i + 1)) (xs (i + 2)) hX hR hg hp hp3
  obtain ⟨cd9, hcd, rfl, hLV, g9, hg9, hv⟩ := hm
  obtain ⟨th9, cx9, kx9, vx9, px9, dx9, K9, V9, sz9, pl9, dn9, hX9, hM10, hR9⟩ := id hLV
  refine lv_istore (lv' := [(6, .int r10), (5, .int (nI cd9)), (4, .int (nI i)), (3, .ref (ad 83)), (2, .ref (ad 76)), (1, .ref (ad 0)), (0, .ref b)]) S.1 S.2.1 dL_law_1250 hl (by decide) rfl (fun ls hl => ?_)
  refine lv_aload_n S.1 S.2.1 dL_law_1252 rfl (lv_at hl 4 rfl) ?_
  refine o_cVi S (rest := []) (c_X3_thrown l G ad s.heap.size f10 cd9 K9 V9 sz9 th9 pl9 dn9 hM10) (cwV 0 S.2.2.2.2 gL_law_X3_thrown rfl rfl rfl (by decide +kernel) ⟨(Nat.le_of_ble_eq_true rfl), (Nat.le_of_ble_eq_true rfl)⟩) hG (by decide) hM10.1 rfl rfl hl.1 rfl (Nat.le_of_ble_eq_true rfl) dL_law_1253 ⟨show _ ≤ 600128 by omega, show _ ≤ 7301098 by omega⟩ (fun r11 f11 H locs hp4 hG => ?_)
  obtain ⟨rfl, rfl⟩ := hp4
  refine lv_iload S.1 S.2.1 dL_law_1256 (lv_at hl 1 rfl) ?_
  refine n_eq S (a := cd9) (b := cd9) (tgt := 1263) dL_law_1258 (by decide) (by omega) (by omega) (fun _ => ?_) (fun h9 => absurd rfl h9)
  refine lv_iload S.1 S.2.1 dL_law_1263 (lv_at hl 1 rfl) ?_
  refine n_if_ne S (a := cd9) (tgt := 1280) dL_law_1265 (by decide) (by omega) (fun _ => ?_) (fun c0 => ?_)
  · skip
    refine lv_goto (tgt := 1628) S.1 S.2.1 dL_law_1280 (by decide) ?_
    have k7 := kk _ _ _ _ _ _ hLV hg9 hG (lv_sub hl [2, 3, 4, 5, 6] rfl)
    exact W.widen (by omega) (by omega) k7
  · skip
    refine lv_aload_n S.1 S.2.1 dL_law_1268 rfl (lv_at hl 3 rfl) ?_
    refine lv_iconst (v := nI 0) S.1 S.2.1 dL_law_1269 (by decide) ?_
    refine o_lald S hG (j := 0) (by decide) hg9 (by decide) dL_law_1270 (kk := ?_)
    refine lv_iload S.1 S.2.1 dL_law_1271 (lv_at hl 0 rfl) ?_
    refine lv_i2l (v := r10.toInt64) S.1 S.2.1 dL_law_1273 rfl ?_
    refine W.lcmp S.1 S.2.1 dL_law_1274 ?_
    refine lv_if_eq (tgt := 1280) S.1 S.2.1 dL_law_1275 (by decide) (fun _ => ?_) (fun h9 => absurd ((lg_cmp_eq _ _).mpr (hv c0)) h9)
    refine lv_goto (tgt := 1628) S.1 S.2.1 dL_law_1280 (by decide) ?_
    have k7 := kk _ _ _ _ _ _ hLV hg9 hG (lv_sub hl [2, 3, 4, 5, 6] rfl)
    exact W.widen (by omega) (by omega) k7

set_option maxHeartbeats 4000000 in
set_option maxRecDepth 100000 in
theorem lc_open {p : Program} {l : Launch} {e : Env} {s : State} {m : MethodId} {below : List Frame} {meth : Method} {c : Code} {Q : State → Prop} {b L : Nat} {xs : Nat → Int32} {G : Gx} {ad : Nat → Nat} {f : Nat → va_E} {H : Heap} {locs : List Loc} {ls : Array Slot} {i cells slots cd : Nat} {g : Nat → Int64} (hst : l.stackTraces = false) (S : CallFix p m c cL_law 8 s #[Value.ref b] wsL_law RL) (hXs : va_X b L xs s s.heap) (hbl : b < s.heap.size) (hL : L ≤ 384) (hLV : LV G ad f cd) (hg : f 83 = eJ G 1 g) (hG : ov_dy G 84 ad s.heap.size s f H locs) (hi : i + 6 ≤ L) (hl : lv_has ls 8 [(4, .int (nI i)), (3, .ref (ad 83)), (2, .ref (ad 76)), (1, .ref (ad 0)), (0, .ref b)]) (hc : cells + 8 ≤ 600128) (hs : slots + 64 ≤ 7301098) (kk : lw_K p l e s m b below meth c Q G ad i cells slots) : W p l e room_1 s m #[Value.ref b] below meth c H locs cells slots Q (F0 m 1283 ls []) := by
  obtain ⟨th, cx, kx, vx, px, dx, K, V, sz, pl, dn, hX, hM, hR⟩ := hLV
  by_cases hz : xs (i + 3) = 0
  · skip
    refine lv_aload_n S.1 S.2.1 dL_law_1283 rfl (lv_at hl 3 rfl) ?_
    refine lv_aload_n S.1 S.2.1 dL_law_1284 rfl (lv_at hl 4 rfl) ?_
    refine lv_iload S.1 S.2.1 dL_law_1285 (lv_at hl 0 rfl) ?_
    refine lv_iconst (v := nI 1) S.1 S.2.1 dL_law_1287 (by decide) ?_
    refine o_add S (a := i) (b := 1) dL_law_1288 ?_
    refine o_sld S hG hXs hbl hL (by omega) dL_law_1289 ?_
    refine lv_aload_n S.1 S.2.1 dL_law_1290 rfl (lv_at hl 4 rfl) ?_
    refine lv_iload S.1 S.2.1 dL_law_1291 (lv_at hl 0 rfl) ?_
    refine lv_iconst (v := nI 2) S.1 S.2.1 dL_law_1293 (by decide) ?_
    refine o_add S (a := i) (b := 2) dL_law_1294 ?_
    refine o_sld S hG hXs hbl hL (by omega) dL_law_1295 ?_
    refine lv_aload_n S.1 S.2.1 dL_law_1296 rfl (lv_at hl 4 rfl) ?_
    refine lv_iload S.1 S.2.1 dL_law_1297 (lv_at hl 0 rfl) ?_
    refine lv_iconst (v := nI 3) S.1 S.2.1 dL_law_1299 (by decide) ?_
    refine o_add S (a := i) (b := 3) dL_law_1300 ?_
    refine o_sld S hG hXs hbl hL (by omega) dL_law_1301 ?_
    refine lv_if_eq (tgt := 1309) S.1 S.2.1 dL_law_1302 (by decide) (fun _ => ?_) (fun h9 => absurd hz h9)
    refine lv_iconst (v := nI 0) S.1 S.2.1 dL_law_1309 (by decide) ?_
    refine lv_aload_n S.1 S.2.1 dL_law_1310 rfl (lv_at hl 1 rfl) ?_
    refine o_cSW S (rest := []) (h_L_open l G ad s.heap.size f (xs (i + 1)) (xs (i + 2)) false _ _ (c_X2_open l hst G ad s.heap.size f th cx kx vx px dx (xs (i + 1)) (xs (i + 2)) false hX hR.2.2.1) hX.1 (fun r f' h => (h.1 83 (by decide)).trans hg) (fun E h => h.imp And.left And.left)) (vx_cwSW 5 S.2.2.2.2 gL_law_L_open rfl rfl rfl (by decide +kernel) ⟨(Nat.le_of_ble_eq_true rfl), (Nat.le_of_ble_eq_true rfl)⟩) hG rfl hl.1 rfl (Nat.le_of_ble_eq_true rfl) dL_law_1311 ⟨show _ ≤ 600128 by omega, show _ ≤ 7301098 by omega⟩ (fun k9 f9 H locs hp hG => ?_)
    have hM9 := hM.keep (hp_k2 (val := (fun w9 : Int32 => w9.toInt64)) hp (fun w f1 h => h.1))
    refine lv_istore (lv' := [(5, .int k9), (4, .int (nI i)), (3, .ref (ad 83)), (2, .ref (ad 76)), (1, .ref (ad 0)), (0, .ref b)]) S.1 S.2.1 dL_law_1314 hl (by decide) rfl (fun ls hl => ?_)
    refine lv_aload_n S.1 S.2.1 dL_law_1316 rfl (lv_at hl 3 rfl) ?_
    refine lv_aload_n S.1 S.2.1 dL_law_1317 rfl (lv_at hl 5 rfl) ?_
    refine lv_iload S.1 S.2.1 dL_law_1318 (lv_at hl 1 rfl) ?_
    refine lv_iconst (v := nI 1) S.1 S.2.1 dL_law_1320 (by decide) ?_
    refine o_add S (a := i) (b := 1) dL_law_1321 ?_
    refine o_sld S hG hXs hbl hL (by omega) dL_law_1322 ?_
    refine lv_aload_n S.1 S.2.1 dL_law_1323 rfl (lv_at hl 5 rfl) ?_
    refine lv_iload S.1 S.2.1 dL_law_1324 (lv_at hl 1 rfl) ?_
    refine lv_iconst (v := nI 2) S.1 S.2.1 dL_law_1326 (by decide) ?_
    refine o_add S (a := i) (b := 2) dL_law_1327 ?_
    refine o_sld S hG hXs hbl hL (by omega) dL_law_1328 ?_
    refine lv_aload_n S.1 S.2.1 dL_law_1329 rfl (lv_at hl 5 rfl) ?_
    refine lv_iload S.1 S.2.1 dL_law_1330 (lv_at hl 1 rfl) ?_
    refine lv_iconst (v := nI 3) S.1 S.2.1 dL_law_1332 (by decide) ?_
    refine o_add S (a := i) (b := 3) dL_law_1333 ?_
    refine o_sld S hG hXs hbl hL (by omega) dL_law_1334 ?_
    refine lv_if_eq (tgt := 1342) S.1 S.2.1 dL_law_1335 (by decide) (fun _ => ?_) (fun h9 => absurd hz h9)
    refine lv_iconst (v := nI 0) S.1 S.2.1 dL_law_1342 (by decide) ?_
    refine o_cVi S (rest := []) (c_X3_open l G ad s.heap.size f9 cd K V sz th pl dn (xs (i + 1)) (xs (i + 2)) false hM9 hR.hW hR.1) (cwV 3 S.2.2.2.2 gL_law_X3_open rfl rfl rfl (by decide +kernel) ⟨(Nat.le_of_ble_eq_true rfl), (Nat.le_of_ble_eq_true rfl)⟩) hG (by decide) hM9.1 rfl rfl hl.1 rfl (Nat.le_of_ble_eq_true rfl) dL_law_1343 ⟨show _ ≤ 600128 by omega, show _ ≤ 7301098 by omega⟩ (fun r10 f10 H locs hp3 hG => ?_)
    have hm : MT G ad f10 k9 r10.toInt64 := m_open (xs (i + 1)) (xs (i + 2)) false hX hR hg hp hp3
    obtain ⟨cd9, hcd, rfl, hLV, g9, hg9, hv⟩ := hm
    obtain ⟨th9, cx9, kx9, vx9, px9, dx9, K9, V9, sz9, pl9, dn9, hX9, hM10, hR9⟩ := id hLV
    refine lv_istore (lv' := [(6, .int r10), (5, .int (nI cd9)), (4, .int (nI i)), (3, .ref (ad 83)), (2, .ref (ad 76)), (1, .ref (ad 0)), (0, .ref b)]) S.1 S.2.1 dL_law_1346 hl (by decide) rfl (fun ls hl => ?_)
    refine lv_aload_n S.1 S.2.1 dL_law_1348 rfl (lv_at hl 4 rfl) ?_
    refine o_cVi S (rest := []) (c_X3_thrown l G ad s.heap.size f10 cd9 K9 V9 sz9 th9 pl9 dn9 hM10) (cwV 0 S.2.2.2.2 gL_law_X3_thrown rfl rfl rfl (by decide +kernel) ⟨(Nat.le_of_ble_eq_true rfl), (Nat.le_of_ble_eq_true rfl)⟩) hG (by decide) hM10.1 rfl rfl hl.1 rfl (Nat.le_of_ble_eq_true rfl) dL_law_1349 ⟨show _ ≤ 600128 by omega, show _ ≤ 7301098 by omega⟩ (fun r11 f11 H locs hp4 hG => ?_)
    obtain ⟨rfl, rfl⟩ := hp4
    refine lv_iload S.1 S.2.1 dL_law_1352 (lv_at hl 1 rfl) ?_
    refine n_eq S (a := cd9) (b := cd9) (tgt := 1359) dL_law_1354 (by decide) (by omega) (by omega) (fun _ => ?_) (fun h9 => absurd rfl h9)
    refine lv_iload S.1 S.2.1 dL_law_1359 (lv_at hl 1 rfl) ?_
    refine n_if_ne S (a := cd9) (tgt := 1376) dL_law_1361 (by decide) (by omega) (fun _ => ?_) (fun c0 => ?_)
    · skip
      refine lv_goto (tgt := 1628) S.1 S.2.1 dL_law_1376 (by decide) ?_
      have k7 := kk _ _ _ _ _ _ hLV hg9 hG (lv_sub hl [2, 3, 4, 5, 6] rfl)
      exact W.widen (by omega) (by omega) k7
    · skip
      refine lv_aload_n S.1 S.2.1 dL_law_1364 rfl (lv_at hl 3 rfl) ?_
      refine lv_iconst (v := nI 0) S.1 S.2.1 dL_law_1365 (by decide) ?_
      refine o_lald S hG (j := 0) (by decide) hg9 (by decide) dL_law_1366 (kk := ?_)
      refine lv_iload S.1 S.2.1 dL_law_1367 (lv_at hl 0 rfl) ?_
      refine lv_i2l (v := r10.toInt64) S.1 S.2.1 dL_law_1369 rfl ?_
      refine W.lcmp S.1 S.2.1 dL_law_1370 ?_
      refine lv_if_eq (tgt := 1376) S.1 S.2.1 dL_law_1371 (by decide) (fun _ => ?_) (fun h9 => absurd ((lg_cmp_eq _ _).mpr (hv c0)) h9)
      refine lv_goto (tgt := 1628) S.1 S.2.1 dL_law_1376 (by decide) ?_
      have k7 := kk _ _ _ _ _ _ hLV hg9 hG (lv_sub hl [2, 3, 4, 5, 6] rfl)
      exact W.widen (by omega) (by omega) k7
  · skip
    refine lv_aload_n S.1 S.2.1 dL_law_1283 rfl (lv_at hl 3 rfl) ?_
    refine lv_aload_n S.1 S.2.1 dL_law_1284 rfl (lv_at hl 4 rfl) ?_
    refine lv_iload S.1 S.2.1 dL_law_1285 (lv_at hl 0 rfl) ?_
    refine lv_iconst (v := nI 1) S.1 S.2.1 dL_law_1287 (by decide) ?_
    refine o_add S (a := i) (b := 1) dL_law_1288 ?_
    refine o_sld S hG hXs hbl hL (by omega) dL_law_1289 ?_
    refine lv_aload_n S.1 S.2.1 dL_law_1290 rfl (lv_at hl 4 rfl) ?_
    refine lv_iload S.1 S.2.1 dL_law_1291 (lv_at hl 0 rfl) ?_
    refine lv_iconst (v := nI 2) S.1 S.2.1 dL_law_1293 (by decide) ?_
    refine o_add S (a := i) (b := 2) dL_law_1294 ?_
    refine o_sld S hG hXs hbl hL (by omega) dL_law_1295 ?_
    refine lv_aload_n S.1 S.2.1 dL_law_1296 rfl (lv_at hl 4 rfl) ?_
    refine lv_iload S.1 S.2.1 dL_law_1297 (lv_at hl 0 rfl) ?_
    refine lv_iconst (v := nI 3) S.1 S.2.1 dL_law_1299 (by decide) ?_
    refine o_add S (a := i) (b := 3) dL_law_1300 ?_
    refine o_sld S hG hXs hbl hL (by omega) dL_law_1301 ?_
    refine lv_if_eq (tgt := 1309) S.1 S.2.1 dL_law_1302 (by decide) (fun h9 => absurd h9 hz) (fun _ => ?_)
    refine lv_iconst (v := nI 1) S.1 S.2.1 dL_law_1305 (by decide) ?_
    refine lv_goto (tgt := 1310) S.1 S.2.1 dL_law_1306 (by decide) ?_
    refine lv_aload_n S.1 S.2.1 dL_law_1310 rfl (lv_at hl 1 rfl) ?_
    refine o_cSW S (rest := []) (h_L_open l G ad s.heap.size f (xs (i + 1)) (xs (i + 2)) true _ _ (c_X2_open l hst G ad s.heap.size f th cx kx vx px dx (xs (i + 1)) (xs (i + 2)) true hX hR.2.2.1) hX.1 (fun r f' h => (h.1 83 (by decide)).trans hg) (fun E h => h.imp And.left And.left)) (vx_cwSW 5 S.2.2.2.2 gL_law_L_open rfl rfl rfl (by decide +kernel) ⟨(Nat.le_of_ble_eq_true rfl), (Nat.le_of_ble_eq_true rfl)⟩) hG rfl hl.1 rfl (Nat.le_of_ble_eq_true rfl) dL_law_1311 ⟨show _ ≤ 600128 by omega, show _ ≤ 7301098 by omega⟩ (fun k9 f9 H locs hp hG => ?_)
    have hM9 := hM.keep (hp_k2 (val := (fun w9 : Int32 => w9.toInt64)) hp (fun w f1 h => h.1))
    refine lv_istore (lv' := [(5, .int k9), (4, .int (nI i)), (3, .ref (ad 83)), (2, .ref (ad 76)), (1, .ref (ad 0)), (0, .ref b)]) S.1 S.2.1 dL_law_1314 hl (by decide) rfl (fun ls hl => ?_)
    refine lv_aload_n S.1 S.2.1 dL_law_1316 rfl (lv_at hl 3 rfl) ?_
    refine lv_aload_n S.1 S.2.1 dL_law_1317 rfl (lv_at hl 5 rfl) ?_
    refine lv_iload S.1 S.2.1 dL_law_1318 (lv_at hl 1 rfl) ?_
    refine lv_iconst (v := nI 1) S.1 S.2.1 dL_law_1320 (by decide) ?_
    refine o_add S (a := i) (b := 1) dL_law_1321 ?_
    refine o_sld S hG hXs hbl hL (by omega) dL_law_1322 ?_
    refine lv_aload_n S.1 S.2.1 dL_law_1323 rfl (lv_at hl 5 rfl) ?_
    refine lv_iload S.1 S.2.1 dL_law_1324 (lv_at hl 1 rfl) ?_
    refine lv_iconst (v := nI 2) S.1 S.2.1 dL_law_1326 (by decide) ?_
    refine o_add S (a := i) (b := 2) dL_law_1327 ?_
    refine o_sld S hG hXs hbl hL (by omega) dL_law_1328 ?_
    refine lv_aload_n S.1 S.2.1 dL_law_1329 rfl (lv_at hl 5 rfl) ?_
    refine lv_iload S.1 S.2.1 dL_law_1330 (lv_at hl 1 rfl) ?_
    refine lv_iconst (v := nI 3) S.1 S.2.1 dL_law_1332 (by decide) ?_
    refine o_add S (a := i) (b := 3) dL_law_1333 ?_
    refine o_sld S hG hXs hbl hL (by omega) dL_law_1334 ?_
    refine lv_if_eq (tgt := 1342) S.1 S.2.1 dL_law_1335 (by decide) (fun h9 => absurd h9 hz) (fun _ => ?_)
    refine lv_iconst (v := nI 1) S.1 S.2.1 dL_law_1338 (by decide) ?_
    refine lv_goto (tgt := 1343) S.1 S.2.1 dL_law_1339 (by decide) ?_
    refine o_cVi S (rest := []) (c_X3_open l G ad s.heap.size f9 cd K V sz th pl dn (xs (i + 1)) (xs (i + 2)) true hM9 hR.hW hR.1) (cwV 3 S.2.2.2.2 gL_law_X3_open rfl rfl rfl (by decide +kernel) ⟨(Nat.le_of_ble_eq_true rfl), (Nat.le_of_ble_eq_true rfl)⟩) hG (by decide) hM9.1 rfl rfl hl.1 rfl (Nat.le_of_ble_eq_true rfl) dL_law_1343 ⟨show _ ≤ 600128 by omega, show _ ≤ 7301098 by omega⟩ (fun r10 f10 H locs hp3 hG => ?_)
    have hm : MT G ad f10 k9 r10.toInt64 := m_open (xs (i + 1)) (xs (i + 2)) true hX hR hg hp hp3
    obtain ⟨cd9, hcd, rfl, hLV, g9, hg9, hv⟩ := hm
    obtain ⟨th9, cx9, kx9, vx9, px9, dx9, K9, V9, sz9, pl9, dn9, hX9, hM10, hR9⟩ := id hLV
    refine lv_istore (lv' := [(6, .int r10), (5, .int (nI cd9)), (4, .int (nI i)), (3, .ref (ad 83)), (2, .ref (ad 76)), (1, .ref (ad 0)), (0, .ref b)]) S.1 S.2.1 dL_law_1346 hl (by decide) rfl (fun ls hl => ?_)
    refine lv_aload_n S.1 S.2.1 dL_law_1348 rfl (lv_at hl 4 rfl) ?_
    refine o_cVi S (rest := []) (c_X3_thrown l G ad s.heap.size f10 cd9 K9 V9 sz9 th9 pl9 dn9 hM10) (cwV 0 S.2.2.2.2 gL_law_X3_thrown rfl rfl rfl (by decide +kernel) ⟨(Nat.le_of_ble_eq_true rfl), (Nat.le_of_ble_eq_true rfl)⟩) hG (by decide) hM10.1 rfl rfl hl.1 rfl (Nat.le_of_ble_eq_true rfl) dL_law_1349 ⟨show _ ≤ 600128 by omega, show _ ≤ 7301098 by omega⟩ (fun r11 f11 H locs hp4 hG => ?_)
    obtain ⟨rfl, rfl⟩ := hp4
    refine lv_iload S.1 S.2.1 dL_law_1352 (lv_at hl 1 rfl) ?_
    refine n_eq S (a := cd9) (b := cd9) (tgt := 1359) dL_law_1354 (by decide) (by omega) (by omega) (fun _ => ?_) (fun h9 => absurd rfl h9)
    refine lv_iload S.1 S.2.1 dL_law_1359 (lv_at hl 1 rfl) ?_
    refine n_if_ne S (a := cd9) (tgt := 1376) dL_law_1361 (by decide) (by omega) (fun _ => ?_) (fun c0 => ?_)
    · skip
      refine lv_goto (tgt := 1628) S.1 S.2.1 dL_law_1376 (by decide) ?_
      have k7 := kk _ _ _ _ _ _ hLV hg9 hG (lv_sub hl [2, 3, 4, 5, 6] rfl)
      exact W.widen (by omega) (by omega) k7
    · skip
      refine lv_aload_n S.1 S.2.1 dL_law_1364 rfl (lv_at hl 3 rfl) ?_
      refine lv_iconst (v := nI 0) S.1 S.2.1 dL_law_1365 (by decide) ?_
      refine o_lald S hG (j := 0) (by decide) hg9 (by decide) dL_law_1366 (kk := ?_)
      refine lv_iload S.1 S.2.1 dL_law_1367 (lv_at hl 0 rfl) ?_
      refine lv_i2l (v := r10.toInt64) S.1 S.2.1 dL_law_1369 rfl ?_
      refine W.lcmp S.1 S.2.1 dL_law_1370 ?_
      refine lv_if_eq (tgt := 1376) S.1 S.2.1 dL_law_1371 (by decide) (fun _ => ?_) (fun h9 => absurd ((lg_cmp_eq _ _).mpr (hv c0)) h9)
      refine lv_goto (tgt := 1628) S.1 S.2.1 dL_law_1376 (by decide) ?_
      have k7 := kk _ _ _ _ _ _ hLV hg9 hG (lv_sub hl [2, 3, 4, 5, 6] rfl)
      exact W.widen (by omega) (by omega) k7

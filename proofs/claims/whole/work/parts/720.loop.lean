set_option maxHeartbeats 4000000 in
set_option maxRecDepth 100000 in
theorem law_loop {p : Program} {l : Launch} {e : Env} {s : State} {m : MethodId} {below : List Frame} {meth : Method} {c : Code} {b L : Nat} {xs : Nat → Int32} {G : Gx} {ad : Nat → Nat} (hst : l.stackTraces = false) (S : CallFix p m c cL_law 8 s #[Value.ref b] wsL_law RL) (hr : meth.sig.returnType = ret) (hlocks : meth.locks = false) (hXs : va_X b L xs s s.heap) (hbl : b < s.heap.size) (hL : L ≤ 384) :
    ∀ (d9 k : Nat) (f : Nat → va_E) (cd : Nat) (g : Nat → Int64) (H : Heap) (locs : List Loc), L - 6 * k < d9 → 6 * k ≤ L → LV G ad f cd → f 83 = eJ G 1 g → ov_dy G 84 ad s.heap.size s f H locs → ∀ ls : Array Slot, lv_has ls 8 [(4, .int (nI (6 * k))), (3, .ref (ad 83)), (2, .ref (ad 76)), (1, .ref (ad 0)), (0, .ref b)] →
      W p l e room_1 s m #[Value.ref b] below meth c H locs (84 + 3 * k) (50600 + 18 * k) (lw_Z below #[Value.ref b] s) (F0 m 23 ls []) := by
  intro d9
  induction d9 with
  | zero => intro k f cd g H locs h; exact absurd h (Nat.not_lt_zero _)
  | succ d9 ih =>
    intro k f cd g H locs h9 hk hLV hg hG ls hl
    refine lv_iload S.1 S.2.1 dL_law_23 (lv_at hl 0 rfl) ?_
    refine lv_aload_n S.1 S.2.1 dL_law_25 rfl (lv_at hl 4 rfl) ?_
    refine o_slen S hG hXs hbl dL_law_26 ?_
    refine lv_bipush (v := nI 6) S.1 S.2.1 dL_law_27 (by decide) ?_
    refine lv_isub S.1 S.2.1 dL_law_29 ?_
    have eL : (nI L - nI 6).toInt = (L : Int) - 6 := by
      rw [show nI L - nI 6 = zI ((L : Int) - 6) from zI_sub (L : Int) 6]
      exact zI_toInt (by omega) (by omega)
    refine lv_icmp_gt (tgt := 1634) S.1 S.2.1 dL_law_30 (by decide) (fun c30 => ?_) (fun c30 => ?_)
    · refine lv_iconst (v := 1) S.1 S.2.1 dL_law_1634 (by decide) ?_
      refine va_forget (fun q hq => hG.2.2.1.2.2 q hq) ?_
      exact W.widen (by omega) (by omega) (lw_ret S.1 S.2.1 hr hlocks dL_law_1635)
    · have hi : 6 * k + 6 ≤ L := by
        rw [i32_lt, eL, nI_toInt (by omega)] at c30; omega
      have kk : lw_K p l e s m b below meth c (lw_Z below #[Value.ref b] s) G ad (6 * k) (84 + 3 * k) (50600 + 18 * k) := by
        intro f2 cd2 g2 H2 locs2 ls2 hLV2 hg2 hG2 hl2
        refine lv_iinc (v := nI (6 * (k + 1))) (lv' := [(4, .int (nI (6 * (k + 1)))), (3, .ref (ad 83)), (2, .ref (ad 76)), (1, .ref (ad 0)), (0, .ref b)]) S.1 S.2.1 dL_law_1628 hl2 (k := 0) rfl (nI_add (6 * k) 6) (by decide) rfl (fun ls hl => ?_)
        refine lv_goto (tgt := 23) S.1 S.2.1 dL_law_1631 (by decide) ?_
        have k7 := ih (k + 1) f2 cd2 g2 H2 locs2 (by omega) (by omega) hLV2 hg2 hG2 ls hl
        exact W.widen (by omega) (by omega) k7
      refine lv_aload_n S.1 S.2.1 dL_law_33 rfl (lv_at hl 4 rfl) ?_
      refine lv_iload S.1 S.2.1 dL_law_34 (lv_at hl 0 rfl) ?_
      refine o_sld S hG hXs hbl hL (by omega) dL_law_36 ?_
      refine lv_bipush (v := nI 31) S.1 S.2.1 dL_law_37 (by decide) ?_
      refine lv_iand S.1 S.2.1 dL_law_39 ?_
      generalize xs (6 * k) &&& nI 31 = x
      by_cases ht : x.toInt < 0 ∨ 22 < x.toInt
      · refine lv_tableOut (tgt := 1628) S.1 S.2.1 dL_law_40 ht (by decide) ?_
        exact W.widen (by omega) (by omega) (kk f cd g H locs ls hLV hg hG hl)
      · have h23 : x.toInt = 0 ∨ x.toInt = 1 ∨ x.toInt = 2 ∨ x.toInt = 3 ∨ x.toInt = 4 ∨ x.toInt = 5 ∨ x.toInt = 6 ∨ x.toInt = 7 ∨ x.toInt = 8 ∨ x.toInt = 9 ∨ x.toInt = 10 ∨ x.toInt = 11 ∨ x.toInt = 12 ∨ x.toInt = 13 ∨ x.toInt = 14 ∨ x.toInt = 15 ∨ x.toInt = 16 ∨ x.toInt = 17 ∨ x.toInt = 18 ∨ x.toInt = 19 ∨ x.toInt = 20 ∨ x.toInt = 21 ∨ x.toInt = 22 := by omega
        have n1 : ¬ x.toInt < 0 := by omega
        have n2 : ¬ 22 < x.toInt := by omega
        rcases h23 with h | h | h | h | h | h | h | h | h | h | h | h | h | h | h | h | h | h | h | h | h | h | h
        · refine lv_tableIn (off := 108) (tgt := 148) S.1 S.2.1 dL_law_40 n1 n2 (by rw [h]; rfl) (by decide) ?_
          exact lc_put hst S hXs hbl hL hLV hg hG hi hl (by omega) (by omega) kk
        · refine lv_tableIn (off := 183) (tgt := 223) S.1 S.2.1 dL_law_40 n1 n2 (by rw [h]; rfl) (by decide) ?_
          exact lc_remove hst S hXs hbl hL hLV hg hG hi hl (by omega) (by omega) kk
        · refine lv_tableIn (off := 239) (tgt := 279) S.1 S.2.1 dL_law_40 n1 n2 (by rw [h]; rfl) (by decide) ?_
          exact lc_load hst S hXs hbl hL hLV hg hG hi hl (by omega) (by omega) kk
        · refine lv_tableIn (off := 343) (tgt := 383) S.1 S.2.1 dL_law_40 n1 n2 (by rw [h]; rfl) (by decide) ?_
          exact lc_cut hst S hXs hbl hL hLV hg hG hi hl (by omega) (by omega) kk
        · refine lv_tableIn (off := 380) (tgt := 420) S.1 S.2.1 dL_law_40 n1 n2 (by rw [h]; rfl) (by decide) ?_
          exact lc_merge hst S hXs hbl hL hLV hg hG hi hl (by omega) (by omega) kk
        · refine lv_tableIn (off := 436) (tgt := 476) S.1 S.2.1 dL_law_40 n1 n2 (by rw [h]; rfl) (by decide) ?_
          exact lc_snapshot hst S hXs hbl hL hLV hg hG hi hl (by omega) (by omega) kk
        · refine lv_tableIn (off := 480) (tgt := 520) S.1 S.2.1 dL_law_40 n1 n2 (by rw [h]; rfl) (by decide) ?_
          exact lc_release hst S hXs hbl hL hLV hg hG hi hl (by omega) (by omega) kk
        · refine lv_tableIn (off := 536) (tgt := 576) S.1 S.2.1 dL_law_40 n1 n2 (by rw [h]; rfl) (by decide) ?_
          exact lc_restore hst S hXs hbl hL hLV hg hG hi hl (by omega) (by omega) kk
        · refine lv_tableIn (off := 592) (tgt := 632) S.1 S.2.1 dL_law_40 n1 n2 (by rw [h]; rfl) (by decide) ?_
          exact lc_size hst S hXs hbl hL hLV hg hG hi hl (by omega) (by omega) kk
        · refine lv_tableIn (off := 648) (tgt := 688) S.1 S.2.1 dL_law_40 n1 n2 (by rw [h]; rfl) (by decide) ?_
          exact lc_get hst S hXs hbl hL hLV hg hG hi hl (by omega) (by omega) kk
        · refine lv_tableIn (off := 716) (tgt := 756) S.1 S.2.1 dL_law_40 n1 n2 (by rw [h]; rfl) (by decide) ?_
          exact lc_rank hst S hXs hbl hL hLV hg hG hi hl (by omega) (by omega) kk
        · refine lv_tableIn (off := 784) (tgt := 824) S.1 S.2.1 dL_law_40 n1 n2 (by rw [h]; rfl) (by decide) ?_
          exact lc_select hst S hXs hbl hL hLV hg hG hi hl (by omega) (by omega) kk
        · refine lv_tableIn (off := 852) (tgt := 892) S.1 S.2.1 dL_law_40 n1 n2 (by rw [h]; rfl) (by decide) ?_
          exact lc_near hst S hXs hbl hL hLV hg hG hi hl (by omega) (by omega) kk
        · refine lv_tableIn (off := 948) (tgt := 988) S.1 S.2.1 dL_law_40 n1 n2 (by rw [h]; rfl) (by decide) ?_
          exact lc_sum hst S hXs hbl hL hLV hg hG hi hl (by omega) (by omega) kk
        · refine lv_tableIn (off := 1027) (tgt := 1067) S.1 S.2.1 dL_law_40 n1 n2 (by rw [h]; rfl) (by decide) ?_
          exact lc_greatest hst S hXs hbl hL hLV hg hG hi hl (by omega) (by omega) kk
        · refine lv_tableIn (off := 1107) (tgt := 1147) S.1 S.2.1 dL_law_40 n1 n2 (by rw [h]; rfl) (by decide) ?_
          exact lc_differs hst S hXs hbl hL hLV hg hG hi hl (by omega) (by omega) kk
        · refine lv_tableIn (off := 1175) (tgt := 1215) S.1 S.2.1 dL_law_40 n1 n2 (by rw [h]; rfl) (by decide) ?_
          exact lc_firstDifference hst S hXs hbl hL hLV hg hG hi hl (by omega) (by omega) kk
        · refine lv_tableIn (off := 1243) (tgt := 1283) S.1 S.2.1 dL_law_40 n1 n2 (by rw [h]; rfl) (by decide) ?_
          exact lc_open hst S hXs hbl hL hLV hg hG hi hl (by omega) (by omega) kk
        · refine lv_tableIn (off := 1339) (tgt := 1379) S.1 S.2.1 dL_law_40 n1 n2 (by rw [h]; rfl) (by decide) ?_
          exact lc_next hst S hXs hbl hL hLV hg hG hi hl (by omega) (by omega) kk
        · refine lv_tableIn (off := 1395) (tgt := 1435) S.1 S.2.1 dL_law_40 n1 n2 (by rw [h]; rfl) (by decide) ?_
          exact lc_skip hst S hXs hbl hL hLV hg hG hi hl (by omega) (by omega) kk
        · refine lv_tableIn (off := 1463) (tgt := 1503) S.1 S.2.1 dL_law_40 n1 n2 (by rw [h]; rfl) (by decide) ?_
          exact lc_peek hst S hXs hbl hL hLV hg hG hi hl (by omega) (by omega) kk
        · refine lv_tableIn (off := 1519) (tgt := 1559) S.1 S.2.1 dL_law_40 n1 n2 (by rw [h]; rfl) (by decide) ?_
          exact lc_close hst S hXs hbl hL hLV hg hG hi hl (by omega) (by omega) kk
        · refine lv_tableIn (off := 1575) (tgt := 1615) S.1 S.2.1 dL_law_40 n1 n2 (by rw [h]; rfl) (by decide) ?_
          exact lc_astray hst S hXs hbl hL hLV hg hG hi hl (by omega) (by omega) kk

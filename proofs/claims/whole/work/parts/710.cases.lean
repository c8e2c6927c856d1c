set_option maxHeartbeats 4000000 in
set_option maxRecDepth 100000 in
theorem lc_put {p : Program} {l : Launch} {e : Env} {s : State} {m : MethodId} {below : List Frame} {meth : Method} {c : Code} {Q : State → Prop} {b L : Nat} {xs : Nat → Int32} {G : Gx} {ad : Nat → Nat} {f : Nat → va_E} {H : Heap} {locs : List Loc} {ls : Array Slot} {i cells slots cd : Nat} {g : Nat → Int64} (hst : l.stackTraces = false) (S : CallFix p m c cL_law 8 s #[Value.ref b] wsL_law RL) (hXs : va_X b L xs s s.heap) (hbl : b < s.heap.size) (hL : L ≤ 384) (hLV : LV G ad f cd) (hg : f 83 = eJ G 1 g) (hG : ov_dy G 84 ad s.heap.size s f H locs) (hi : i + 6 ≤ L) (hl : lv_has ls 8 [(4, .int (nI i)), (3, .ref (ad 83)), (2, .ref (ad 76)), (1, .ref (ad 0)), (0, .ref b)]) (hc : cells + 8 ≤ 600128) (hs : slots + 64 ≤ 7301098) (kk : lw_K p l e s m b below meth c Q G ad i cells slots) : W p l e room_1 s m #[Value.ref b] below meth c H locs cells slots Q (F0 m 148 ls []) := by
  obtain ⟨th, cx, kx, vx, px, dx, K, V, sz, pl, dn, hX, hM, hR⟩ := hLV
  refine lv_aload_n S.1 S.2.1 dL_law_148 rfl (lv_at hl 3 rfl) ?_
  refine lv_aload_n S.1 S.2.1 dL_law_149 rfl (lv_at hl 4 rfl) ?_
  refine lv_iload S.1 S.2.1 dL_law_150 (lv_at hl 0 rfl) ?_
  refine lv_iconst (v := nI 1) S.1 S.2.1 dL_law_152 (by decide) ?_
  refine o_add S (a := i) (b := 1) dL_law_153 ?_
  refine o_sld S hG hXs hbl hL (by omega) dL_law_154 ?_
  refine lv_aload_n S.1 S.2.1 dL_law_155 rfl (lv_at hl 4 rfl) ?_
  refine lv_iload S.1 S.2.1 dL_law_156 (lv_at hl 0 rfl) ?_
  refine lv_iconst (v := nI 2) S.1 S.2.1 dL_law_158 (by decide) ?_
  refine o_add S (a := i) (b := 2) dL_law_159 ?_
  refine o_sld S hG hXs hbl hL (by omega) dL_law_160 ?_
  refine lv_aload_n S.1 S.2.1 dL_law_161 rfl (lv_at hl 1 rfl) ?_
  refine o_cSW S (rest := []) (h_L_put l G ad s.heap.size f (xs (i + 1)) (xs (i + 2)) _ _ (c_X2_put l hst G ad s.heap.size f th cx kx vx px dx (xs (i + 1)) (xs (i + 2)) hX hR.2.2.1) hX.1 (fun r f' h => (h.1 83 (by decide)).trans hg) (fun E h => h.1)) (vx_cwSW 4 S.2.2.2.2 gL_law_L_put rfl rfl rfl (by decide +kernel) ⟨(Nat.le_of_ble_eq_true rfl), (Nat.le_of_ble_eq_true rfl)⟩) hG rfl hl.1 rfl (Nat.le_of_ble_eq_true rfl) dL_law_162 ⟨show _ ≤ 600128 by omega, show _ ≤ 7301098 by omega⟩ (fun k9 f9 H locs hp hG => ?_)
  have hM9 := hM.keep (hp_k1 (val := (fun w9 : Int32 => if w9 = 0 then lN 0 else lN 1)) hp (fun w f1 h => h.1))
  refine lv_istore (lv' := [(5, .int k9), (4, .int (nI i)), (3, .ref (ad 83)), (2, .ref (ad 76)), (1, .ref (ad 0)), (0, .ref b)]) S.1 S.2.1 dL_law_165 hl (by decide) rfl (fun ls hl => ?_)
  refine lv_aload_n S.1 S.2.1 dL_law_167 rfl (lv_at hl 3 rfl) ?_
  refine lv_aload_n S.1 S.2.1 dL_law_168 rfl (lv_at hl 5 rfl) ?_
  refine lv_iload S.1 S.2.1 dL_law_169 (lv_at hl 1 rfl) ?_
  refine lv_iconst (v := nI 1) S.1 S.2.1 dL_law_171 (by decide) ?_
  refine o_add S (a := i) (b := 1) dL_law_172 ?_
  refine o_sld S hG hXs hbl hL (by omega) dL_law_173 ?_
  refine lv_aload_n S.1 S.2.1 dL_law_174 rfl (lv_at hl 5 rfl) ?_
  refine lv_iload S.1 S.2.1 dL_law_175 (lv_at hl 1 rfl) ?_
  refine lv_iconst (v := nI 2) S.1 S.2.1 dL_law_177 (by decide) ?_
  refine o_add S (a := i) (b := 2) dL_law_178 ?_
  refine o_sld S hG hXs hbl hL (by omega) dL_law_179 ?_
  refine o_cVi S (rest := []) (c_X3_put l G ad s.heap.size f9 cd K V sz th pl dn (xs (i + 1)) (xs (i + 2)) hM9 hR.hW hR.1) (cwV 2 S.2.2.2.2 gL_law_X3_put rfl rfl rfl (by decide +kernel) ⟨(Nat.le_of_ble_eq_true rfl), (Nat.le_of_ble_eq_true rfl)⟩) hG (by decide) hM9.1 rfl rfl hl.1 rfl (Nat.le_of_ble_eq_true rfl) dL_law_180 ⟨show _ ≤ 600128 by omega, show _ ≤ 7301098 by omega⟩ (fun r10 f10 H locs hp3 hG => ?_)
  have hm : MT G ad f10 k9 (if r10 = 0 then lN 0 else lN 1) := m_put (xs (i + 1)) (xs (i + 2)) hX hR hg (hp.imp_right Or.inl) hp3
  obtain ⟨cd9, hcd, rfl, hLV, g9, hg9, hv⟩ := hm
  obtain ⟨th9, cx9, kx9, vx9, px9, dx9, K9, V9, sz9, pl9, dn9, hX9, hM10, hR9⟩ := id hLV
  refine lv_istore (lv' := [(6, .int r10), (5, .int (nI cd9)), (4, .int (nI i)), (3, .ref (ad 83)), (2, .ref (ad 76)), (1, .ref (ad 0)), (0, .ref b)]) S.1 S.2.1 dL_law_183 hl (by decide) rfl (fun ls hl => ?_)
  refine lv_aload_n S.1 S.2.1 dL_law_185 rfl (lv_at hl 4 rfl) ?_
  refine o_cVi S (rest := []) (c_X3_thrown l G ad s.heap.size f10 cd9 K9 V9 sz9 th9 pl9 dn9 hM10) (cwV 0 S.2.2.2.2 gL_law_X3_thrown rfl rfl rfl (by decide +kernel) ⟨(Nat.le_of_ble_eq_true rfl), (Nat.le_of_ble_eq_true rfl)⟩) hG (by decide) hM10.1 rfl rfl hl.1 rfl (Nat.le_of_ble_eq_true rfl) dL_law_186 ⟨show _ ≤ 600128 by omega, show _ ≤ 7301098 by omega⟩ (fun r11 f11 H locs hp4 hG => ?_)
  obtain ⟨rfl, rfl⟩ := hp4
  refine lv_iload S.1 S.2.1 dL_law_189 (lv_at hl 1 rfl) ?_
  refine n_eq S (a := cd9) (b := cd9) (tgt := 196) dL_law_191 (by decide) (by omega) (by omega) (fun _ => ?_) (fun h9 => absurd rfl h9)
  refine lv_iload S.1 S.2.1 dL_law_196 (lv_at hl 1 rfl) ?_
  refine n_if_ne S (a := cd9) (tgt := 220) dL_law_198 (by decide) (by omega) (fun _ => ?_) (fun c0 => ?_)
  · skip
    refine lv_goto (tgt := 1628) S.1 S.2.1 dL_law_220 (by decide) ?_
    have k7 := kk _ _ _ _ _ _ hLV hg9 hG (lv_sub hl [2, 3, 4, 5, 6] rfl)
    exact W.widen (by omega) (by omega) k7
  · skip
    refine lv_aload_n S.1 S.2.1 dL_law_201 rfl (lv_at hl 3 rfl) ?_
    refine lv_iconst (v := nI 0) S.1 S.2.1 dL_law_202 (by decide) ?_
    refine o_lald S hG (j := 0) (by decide) hg9 (by decide) dL_law_203 (kk := ?_)
    refine lv_iload S.1 S.2.1 dL_law_204 (lv_at hl 0 rfl) ?_
    refine lv_if_eq (tgt := 213) S.1 S.2.1 dL_law_206 (by decide) (fun cz => ?_) (fun cz => ?_)
    · skip
      refine lv_lconst (v := lN 0) S.1 S.2.1 dL_law_213 (by decide) ?_
      refine W.lcmp S.1 S.2.1 dL_law_214 ?_
      refine lv_if_eq (tgt := 220) S.1 S.2.1 dL_law_215 (by decide) (fun _ => ?_) (fun h9 => absurd ((lg_cmp_eq _ _).mpr ((hv c0).trans (if_pos cz))) h9)
      refine lv_goto (tgt := 1628) S.1 S.2.1 dL_law_220 (by decide) ?_
      have k7 := kk _ _ _ _ _ _ hLV hg9 hG (lv_sub hl [2, 3, 4, 5, 6] rfl)
      exact W.widen (by omega) (by omega) k7
    · skip
      refine lv_lconst (v := lN 1) S.1 S.2.1 dL_law_209 (by decide) ?_
      refine lv_goto (tgt := 214) S.1 S.2.1 dL_law_210 (by decide) ?_
      refine W.lcmp S.1 S.2.1 dL_law_214 ?_
      refine lv_if_eq (tgt := 220) S.1 S.2.1 dL_law_215 (by decide) (fun _ => ?_) (fun h9 => absurd ((lg_cmp_eq _ _).mpr ((hv c0).trans (if_neg cz))) h9)
      refine lv_goto (tgt := 1628) S.1 S.2.1 dL_law_220 (by decide) ?_
      have k7 := kk _ _ _ _ _ _ hLV hg9 hG (lv_sub hl [2, 3, 4, 5, 6] rfl)
      exact W.widen (by omega) (by omega) k7

set_option maxHeartbeats 4000000 in
set_option maxRecDepth 100000 in
theorem lc_remove {p : Program} {l : Launch} {e : Env} {s : State} {m : MethodId} {below : List Frame} {meth : Method} {c : Code} {Q : State → Prop} {b L : Nat} {xs : Nat → Int32} {G : Gx} {ad : Nat → Nat} {f : Nat → va_E} {H : Heap} {locs : List Loc} {ls : Array Slot} {i cells slots cd : Nat} {g : Nat → Int64} (hst : l.stackTraces = false) (S : CallFix p m c cL_law 8 s #[Value.ref b] wsL_law RL) (hXs : va_X b L xs s s.heap) (hbl : b < s.heap.size) (hL : L ≤ 384) (hLV : LV G ad f cd) (hg : f 83 = eJ G 1 g) (hG : ov_dy G 84 ad s.heap.size s f H locs) (hi : i + 6 ≤ L) (hl : lv_has ls 8 [(4, .int (nI i)), (3, .ref (ad 83)), (2, .ref (ad 76)), (1, .ref (ad 0)), (0, .ref b)]) (hc : cells + 8 ≤ 600128) (hs : slots + 64 ≤ 7301098) (kk : lw_K p l e s m b below meth c Q G ad i cells slots) : W p l e room_1 s m #[Value.ref b] below meth c H locs cells slots Q (F0 m 223 ls []) := by
  obtain ⟨th, cx, kx, vx, px, dx, K, V, sz, pl, dn, hX, hM, hR⟩ := hLV
  refine lv_aload_n S.1 S.2.1 dL_law_223 rfl (lv_at hl 3 rfl) ?_
  refine lv_aload_n S.1 S.2.1 dL_law_224 rfl (lv_at hl 4 rfl) ?_
  refine lv_iload S.1 S.2.1 dL_law_225 (lv_at hl 0 rfl) ?_
  refine lv_iconst (v := nI 1) S.1 S.2.1 dL_law_227 (by decide) ?_
  refine o_add S (a := i) (b := 1) dL_law_228 ?_
  refine o_sld S hG hXs hbl hL (by omega) dL_law_229 ?_
  refine lv_aload_n S.1 S.2.1 dL_law_230 rfl (lv_at hl 1 rfl) ?_
  refine o_cSW S (rest := []) (h_L_remove l G ad s.heap.size f (xs (i + 1)) _ _ (c_X2_remove l hst G ad s.heap.size f th cx kx vx px dx (xs (i + 1)) hX hR.2.2.1) hX.1 (fun r f' h => (h.1 83 (by decide)).trans hg) (fun E h => h.1)) (vx_cwSW 3 S.2.2.2.2 gL_law_L_remove rfl rfl rfl (by decide +kernel) ⟨(Nat.le_of_ble_eq_true rfl), (Nat.le_of_ble_eq_true rfl)⟩) hG rfl hl.1 rfl (Nat.le_of_ble_eq_true rfl) dL_law_231 ⟨show _ ≤ 600128 by omega, show _ ≤ 7301098 by omega⟩ (fun k9 f9 H locs hp hG => ?_)
  have hM9 := hM.keep (hp_k1 (val := (fun w9 : Int32 => w9.toInt64)) hp (fun w f1 h => h.1))
  refine lv_istore (lv' := [(5, .int k9), (4, .int (nI i)), (3, .ref (ad 83)), (2, .ref (ad 76)), (1, .ref (ad 0)), (0, .ref b)]) S.1 S.2.1 dL_law_234 hl (by decide) rfl (fun ls hl => ?_)
  refine lv_aload_n S.1 S.2.1 dL_law_236 rfl (lv_at hl 3 rfl) ?_
  refine lv_aload_n S.1 S.2.1 dL_law_237 rfl (lv_at hl 5 rfl) ?_
  refine lv_iload S.1 S.2.1 dL_law_238 (lv_at hl 1 rfl) ?_
  refine lv_iconst (v := nI 1) S.1 S.2.1 dL_law_240 (by decide) ?_
  refine o_add S (a := i) (b := 1) dL_law_241 ?_
  refine o_sld S hG hXs hbl hL (by omega) dL_law_242 ?_
  refine o_cVi S (rest := []) (c_X3_remove l G ad s.heap.size f9 cd K V sz th pl dn (xs (i + 1)) hM9 hR.hW hR.1) (cwV 1 S.2.2.2.2 gL_law_X3_remove rfl rfl rfl (by decide +kernel) ⟨(Nat.le_of_ble_eq_true rfl), (Nat.le_of_ble_eq_true rfl)⟩) hG (by decide) hM9.1 rfl rfl hl.1 rfl (Nat.le_of_ble_eq_true rfl) dL_law_243 ⟨show _ ≤ 600128 by omega, show _ ≤ 7301098 by omega⟩ (fun r10 f10 H locs hp3 hG => ?_)
  have hm : MT G ad f10 k9 r10.toInt64 := m_remove (xs (i + 1)) hX hR hg (hp.imp_right Or.inl) hp3
  obtain ⟨cd9, hcd, rfl, hLV, g9, hg9, hv⟩ := hm
  obtain ⟨th9, cx9, kx9, vx9, px9, dx9, K9, V9, sz9, pl9, dn9, hX9, hM10, hR9⟩ := id hLV
  refine lv_istore (lv' := [(6, .int r10), (5, .int (nI cd9)), (4, .int (nI i)), (3, .ref (ad 83)), (2, .ref (ad 76)), (1, .ref (ad 0)), (0, .ref b)]) S.1 S.2.1 dL_law_246 hl (by decide) rfl (fun ls hl => ?_)
  refine lv_aload_n S.1 S.2.1 dL_law_248 rfl (lv_at hl 4 rfl) ?_
  refine o_cVi S (rest := []) (c_X3_thrown l G ad s.heap.size f10 cd9 K9 V9 sz9 th9 pl9 dn9 hM10) (cwV 0 S.2.2.2.2 gL_law_X3_thrown rfl rfl rfl (by decide +kernel) ⟨(Nat.le_of_ble_eq_true rfl), (Nat.le_of_ble_eq_true rfl)⟩) hG (by decide) hM10.1 rfl rfl hl.1 rfl (Nat.le_of_ble_eq_true rfl) dL_law_249 ⟨show _ ≤ 600128 by omega, show _ ≤ 7301098 by omega⟩ (fun r11 f11 H locs hp4 hG => ?_)
  obtain ⟨rfl, rfl⟩ := hp4
  refine lv_iload S.1 S.2.1 dL_law_252 (lv_at hl 1 rfl) ?_
  refine n_eq S (a := cd9) (b := cd9) (tgt := 259) dL_law_254 (by decide) (by omega) (by omega) (fun _ => ?_) (fun h9 => absurd rfl h9)
  refine lv_iload S.1 S.2.1 dL_law_259 (lv_at hl 1 rfl) ?_
  refine n_if_ne S (a := cd9) (tgt := 276) dL_law_261 (by decide) (by omega) (fun _ => ?_) (fun c0 => ?_)
  · skip
    refine lv_goto (tgt := 1628) S.1 S.2.1 dL_law_276 (by decide) ?_
    have k7 := kk _ _ _ _ _ _ hLV hg9 hG (lv_sub hl [2, 3, 4, 5, 6] rfl)
    exact W.widen (by omega) (by omega) k7
  · skip
    refine lv_aload_n S.1 S.2.1 dL_law_264 rfl (lv_at hl 3 rfl) ?_
    refine lv_iconst (v := nI 0) S.1 S.2.1 dL_law_265 (by decide) ?_
    refine o_lald S hG (j := 0) (by decide) hg9 (by decide) dL_law_266 (kk := ?_)
    refine lv_iload S.1 S.2.1 dL_law_267 (lv_at hl 0 rfl) ?_
    refine lv_i2l (v := r10.toInt64) S.1 S.2.1 dL_law_269 rfl ?_
    refine W.lcmp S.1 S.2.1 dL_law_270 ?_
    refine lv_if_eq (tgt := 276) S.1 S.2.1 dL_law_271 (by decide) (fun _ => ?_) (fun h9 => absurd ((lg_cmp_eq _ _).mpr (hv c0)) h9)
    refine lv_goto (tgt := 1628) S.1 S.2.1 dL_law_276 (by decide) ?_
    have k7 := kk _ _ _ _ _ _ hLV hg9 hG (lv_sub hl [2, 3, 4, 5, 6] rfl)
    exact W.widen (by omega) (by omega) k7

set_option maxHeartbeats 4000000 in
set_option maxRecDepth 100000 in
theorem lc_load {p : Program} {l : Launch} {e : Env} {s : State} {m : MethodId} {below : List Frame} {meth : Method} {c : Code} {Q : State → Prop} {b L : Nat} {xs : Nat → Int32} {G : Gx} {ad : Nat → Nat} {f : Nat → va_E} {H : Heap} {locs : List Loc} {ls : Array Slot} {i cells slots cd : Nat} {g : Nat → Int64} (hst : l.stackTraces = false) (S : CallFix p m c cL_law 8 s #[Value.ref b] wsL_law RL) (hXs : va_X b L xs s s.heap) (hbl : b < s.heap.size) (hL : L ≤ 384) (hLV : LV G ad f cd) (hg : f 83 = eJ G 1 g) (hG : ov_dy G 84 ad s.heap.size s f H locs) (hi : i + 6 ≤ L) (hl : lv_has ls 8 [(4, .int (nI i)), (3, .ref (ad 83)), (2, .ref (ad 76)), (1, .ref (ad 0)), (0, .ref b)]) (hc : cells + 8 ≤ 600128) (hs : slots + 64 ≤ 7301098) (kk : lw_K p l e s m b below meth c Q G ad i cells slots) : W p l e room_1 s m #[Value.ref b] below meth c H locs cells slots Q (F0 m 279 ls []) := by
  obtain ⟨th, cx, kx, vx, px, dx, K, V, sz, pl, dn, hX, hM, hR⟩ := hLV
  refine lv_aload_n S.1 S.2.1 dL_law_279 rfl (lv_at hl 3 rfl) ?_
  refine lv_aload_n S.1 S.2.1 dL_law_280 rfl (lv_at hl 4 rfl) ?_
  refine lv_iload S.1 S.2.1 dL_law_281 (lv_at hl 0 rfl) ?_
  refine lv_iconst (v := nI 1) S.1 S.2.1 dL_law_283 (by decide) ?_
  refine o_add S (a := i) (b := 1) dL_law_284 ?_
  refine o_sld S hG hXs hbl hL (by omega) dL_law_285 ?_
  refine lv_aload_n S.1 S.2.1 dL_law_286 rfl (lv_at hl 4 rfl) ?_
  refine lv_iload S.1 S.2.1 dL_law_287 (lv_at hl 0 rfl) ?_
  refine lv_iconst (v := nI 2) S.1 S.2.1 dL_law_289 (by decide) ?_
  refine o_add S (a := i) (b := 2) dL_law_290 ?_
  refine o_sld S hG hXs hbl hL (by omega) dL_law_291 ?_
  refine lv_aload_n S.1 S.2.1 dL_law_292 rfl (lv_at hl 4 rfl) ?_
  refine lv_iload S.1 S.2.1 dL_law_293 (lv_at hl 0 rfl) ?_
  refine lv_iconst (v := nI 3) S.1 S.2.1 dL_law_295 (by decide) ?_
  refine o_add S (a := i) (b := 3) dL_law_296 ?_
  refine o_sld S hG hXs hbl hL (by omega) dL_law_297 ?_
  refine lv_aload_n S.1 S.2.1 dL_law_298 rfl (lv_at hl 4 rfl) ?_
  refine lv_iload S.1 S.2.1 dL_law_299 (lv_at hl 0 rfl) ?_
  refine lv_iconst (v := nI 4) S.1 S.2.1 dL_law_301 (by decide) ?_
  refine o_add S (a := i) (b := 4) dL_law_302 ?_
  refine o_sld S hG hXs hbl hL (by omega) dL_law_303 ?_
  refine lv_aload_n S.1 S.2.1 dL_law_304 rfl (lv_at hl 4 rfl) ?_
  refine lv_iload S.1 S.2.1 dL_law_305 (lv_at hl 0 rfl) ?_
  refine lv_iconst (v := nI 5) S.1 S.2.1 dL_law_307 (by decide) ?_
  refine o_add S (a := i) (b := 5) dL_law_308 ?_
  refine o_sld S hG hXs hbl hL (by omega) dL_law_309 ?_
  refine lv_aload_n S.1 S.2.1 dL_law_310 rfl (lv_at hl 1 rfl) ?_
  refine o_cSW S (rest := []) (h_L_load l G ad s.heap.size f (xs (i + 1)) (xs (i + 2)) (xs (i + 3)) (xs (i + 4)) (xs (i + 5)) _ _ (c_X2_load l hst G ad s.heap.size f th cx kx vx px dx (xs (i + 1)) (xs (i + 2)) (xs (i + 3)) (xs (i + 4)) (xs (i + 5)) hX hR.2.2.1) hX.1 (fun r f' h => (h.1 83 (by decide)).trans hg) (fun E h => h.1)) (vx_cwSW 7 S.2.2.2.2 gL_law_L_load rfl rfl rfl (by decide +kernel) ⟨(Nat.le_of_ble_eq_true rfl), (Nat.le_of_ble_eq_true rfl)⟩) hG rfl hl.1 rfl (Nat.le_of_ble_eq_true rfl) dL_law_311 ⟨show _ ≤ 600128 by omega, show _ ≤ 7301098 by omega⟩ (fun k9 f9 H locs hp hG => ?_)
  have hM9 := hM.keep (hp_k1 (val := (fun w9 : Int32 => w9.toInt64)) hp (fun w f1 h => h.1))
  refine lv_istore (lv' := [(5, .int k9), (4, .int (nI i)), (3, .ref (ad 83)), (2, .ref (ad 76)), (1, .ref (ad 0)), (0, .ref b)]) S.1 S.2.1 dL_law_314 hl (by decide) rfl (fun ls hl => ?_)
  refine lv_aload_n S.1 S.2.1 dL_law_316 rfl (lv_at hl 3 rfl) ?_
  refine lv_aload_n S.1 S.2.1 dL_law_317 rfl (lv_at hl 5 rfl) ?_
  refine lv_iload S.1 S.2.1 dL_law_318 (lv_at hl 1 rfl) ?_
  refine lv_iconst (v := nI 1) S.1 S.2.1 dL_law_320 (by decide) ?_
  refine o_add S (a := i) (b := 1) dL_law_321 ?_
  refine o_sld S hG hXs hbl hL (by omega) dL_law_322 ?_
  refine lv_aload_n S.1 S.2.1 dL_law_323 rfl (lv_at hl 5 rfl) ?_
  refine lv_iload S.1 S.2.1 dL_law_324 (lv_at hl 1 rfl) ?_
  refine lv_iconst (v := nI 2) S.1 S.2.1 dL_law_326 (by decide) ?_
  refine o_add S (a := i) (b := 2) dL_law_327 ?_
  refine o_sld S hG hXs hbl hL (by omega) dL_law_328 ?_
  refine lv_aload_n S.1 S.2.1 dL_law_329 rfl (lv_at hl 5 rfl) ?_
  refine lv_iload S.1 S.2.1 dL_law_330 (lv_at hl 1 rfl) ?_
  refine lv_iconst (v := nI 3) S.1 S.2.1 dL_law_332 (by decide) ?_
  refine o_add S (a := i) (b := 3) dL_law_333 ?_
  refine o_sld S hG hXs hbl hL (by omega) dL_law_334 ?_
  refine lv_aload_n S.1 S.2.1 dL_law_335 rfl (lv_at hl 5 rfl) ?_
  refine lv_iload S.1 S.2.1 dL_law_336 (lv_at hl 1 rfl) ?_
  refine lv_iconst (v := nI 4) S.1 S.2.1 dL_law_338 (by decide) ?_
  refine o_add S (a := i) (b := 4) dL_law_339 ?_
  refine o_sld S hG hXs hbl hL (by omega) dL_law_340 ?_
  refine lv_aload_n S.1 S.2.1 dL_law_341 rfl (lv_at hl 5 rfl) ?_
  refine lv_iload S.1 S.2.1 dL_law_342 (lv_at hl 1 rfl) ?_
  refine lv_iconst (v := nI 5) S.1 S.2.1 dL_law_344 (by decide) ?_
  refine o_add S (a := i) (b := 5) dL_law_345 ?_
  refine o_sld S hG hXs hbl hL (by omega) dL_law_346 ?_
  refine o_cVi S (rest := []) (c_X3_load l G ad s.heap.size f9 cd K V sz th pl dn (xs (i + 1)) (xs (i + 2)) (xs (i + 3)) (xs (i + 4)) (xs (i + 5)) hM9 hR.hW hR.1) (cwV 5 S.2.2.2.2 gL_law_X3_load rfl rfl rfl (by decide +kernel) ⟨(Nat.le_of_ble_eq_true rfl), (Nat.le_of_ble_eq_true rfl)⟩) hG (by decide) hM9.1 rfl rfl hl.1 rfl (Nat.le_of_ble_eq_true rfl) dL_law_347 ⟨show _ ≤ 600128 by omega, show _ ≤ 7301098 by omega⟩ (fun r10 f10 H locs hp3 hG => ?_)
  have hm : MT G ad f10 k9 r10.toInt64 := m_load (xs (i + 1)) (xs (i + 2)) (xs (i + 3)) (xs (i + 4)) (xs (i + 5)) hX hR hg (hp.imp_right Or.inl) hp3
  obtain ⟨cd9, hcd, rfl, hLV, g9, hg9, hv⟩ := hm
  obtain ⟨th9, cx9, kx9, vx9, px9, dx9, K9, V9, sz9, pl9, dn9, hX9, hM10, hR9⟩ := id hLV
  refine lv_istore (lv' := [(6, .int r10), (5, .int (nI cd9)), (4, .int (nI i)), (3, .ref (ad 83)), (2, .ref (ad 76)), (1, .ref (ad 0)), (0, .ref b)]) S.1 S.2.1 dL_law_350 hl (by decide) rfl (fun ls hl => ?_)
  refine lv_aload_n S.1 S.2.1 dL_law_352 rfl (lv_at hl 4 rfl) ?_
  refine o_cVi S (rest := []) (c_X3_thrown l G ad s.heap.size f10 cd9 K9 V9 sz9 th9 pl9 dn9 hM10) (cwV 0 S.2.2.2.2 gL_law_X3_thrown rfl rfl rfl (by decide +kernel) ⟨(Nat.le_of_ble_eq_true rfl), (Nat.le_of_ble_eq_true rfl)⟩) hG (by decide) hM10.1 rfl rfl hl.1 rfl (Nat.le_of_ble_eq_true rfl) dL_law_353 ⟨show _ ≤ 600128 by omega, show _ ≤ 7301098 by omega⟩ (fun r11 f11 H locs hp4 hG => ?_)
  obtain ⟨rfl, rfl⟩ := hp4
  refine lv_iload S.1 S.2.1 dL_law_356 (lv_at hl 1 rfl) ?_
  refine n_eq S (a := cd9) (b := cd9) (tgt := 363) dL_law_358 (by decide) (by omega) (by omega) (fun _ => ?_) (fun h9 => absurd rfl h9)
  refine lv_iload S.1 S.2.1 dL_law_363 (lv_at hl 1 rfl) ?_
  refine n_if_ne S (a := cd9) (tgt := 380) dL_law_365 (by decide) (by omega) (fun _ => ?_) (fun c0 => ?_)
  · skip
    refine lv_goto (tgt := 1628) S.1 S.2.1 dL_law_380 (by decide) ?_
    have k7 := kk _ _ _ _ _ _ hLV hg9 hG (lv_sub hl [2, 3, 4, 5, 6] rfl)
    exact W.widen (by omega) (by omega) k7
  · skip
    refine lv_aload_n S.1 S.2.1 dL_law_368 rfl (lv_at hl 3 rfl) ?_
    refine lv_iconst (v := nI 0) S.1 S.2.1 dL_law_369 (by decide) ?_
    refine o_lald S hG (j := 0) (by decide) hg9 (by decide) dL_law_370 (kk := ?_)
    refine lv_iload S.1 S.2.1 dL_law_371 (lv_at hl 0 rfl) ?_
    refine lv_i2l (v := r10.toInt64) S.1 S.2.1 dL_law_373 rfl ?_
    refine W.lcmp S.1 S.2.1 dL_law_374 ?_
    refine lv_if_eq (tgt := 380) S.1 S.2.1 dL_law_375 (by decide) (fun _ => ?_) (fun h9 => absurd ((lg_cmp_eq _ _).mpr (hv c0)) h9)
    refine lv_goto (tgt := 1628) S.1 S.2.1 dL_law_380 (by decide) ?_
    have k7 := kk _ _ _ _ _ _ hLV hg9 hG (lv_sub hl [2, 3, 4, 5, 6] rfl)
    exact W.widen (by omega) (by omega) k7

set_option maxHeartbeats 4000000 in
set_option maxRecDepth 100000 in
theorem lc_cut {p : Program} {l : Launch} {e : Env} {s : State} {m : MethodId} {below : List Frame} {meth : Method} {c : Code} {Q : State → Prop} {b L : Nat} {xs : Nat → Int32} {G : Gx} {ad : Nat → Nat} {f : Nat → va_E} {H : Heap} {locs : List Loc} {ls : Array Slot} {i cells slots cd : Nat} {g : Nat → Int64} (hst : l.stackTraces = false) (S : CallFix p m c cL_law 8 s #[Value.ref b] wsL_law RL) (hXs : va_X b L xs s s.heap) (hbl : b < s.heap.size) (hL : L ≤ 384) (hLV : LV G ad f cd) (hg : f 83 = eJ G 1 g) (hG : ov_dy G 84 ad s.heap.size s f H locs) (hi : i + 6 ≤ L) (hl : lv_has ls 8 [(4, .int (nI i)), (3, .ref (ad 83)), (2, .ref (ad 76)), (1, .ref (ad 0)), (0, .ref b)]) (hc : cells + 8 ≤ 600128) (hs : slots + 64 ≤ 7301098) (kk : lw_K p l e s m b below meth c Q G ad i cells slots) : W p l e room_1 s m #[Value.ref b] below meth c H locs cells slots Q (F0 m 383 ls []) := by
  obtain ⟨th, cx, kx, vx, px, dx, K, V, sz, pl, dn, hX, hM, hR⟩ := hLV
  refine lv_aload_n S.1 S.2.1 dL_law_383 rfl (lv_at hl 3 rfl) ?_
  refine lv_aload_n S.1 S.2.1 dL_law_384 rfl (lv_at hl 4 rfl) ?_
  refine lv_iload S.1 S.2.1 dL_law_385 (lv_at hl 0 rfl) ?_
  refine lv_iconst (v := nI 1) S.1 S.2.1 dL_law_387 (by decide) ?_
  refine o_add S (a := i) (b := 1) dL_law_388 ?_
  refine o_sld S hG hXs hbl hL (by omega) dL_law_389 ?_
  refine lv_aload_n S.1 S.2.1 dL_law_390 rfl (lv_at hl 4 rfl) ?_
  refine lv_iload S.1 S.2.1 dL_law_391 (lv_at hl 0 rfl) ?_
  refine lv_iconst (v := nI 2) S.1 S.2.1 dL_law_393 (by decide) ?_
  refine o_add S (a := i) (b := 2) dL_law_394 ?_
  refine o_sld S hG hXs hbl hL (by omega) dL_law_395 ?_
  refine o_cVi S (rest := []) (c_X2_cut l G ad s.heap.size f th cx kx vx px dx (xs (i + 1)) (xs (i + 2)) hX hR.2.2.1) (cwV 2 S.2.2.2.2 gL_law_X2_cut rfl rfl rfl (by decide +kernel) ⟨(Nat.le_of_ble_eq_true rfl), (Nat.le_of_ble_eq_true rfl)⟩) hG (by decide) hX.1 rfl rfl hl.1 rfl (Nat.le_of_ble_eq_true rfl) dL_law_396 ⟨show _ ≤ 600128 by omega, show _ ≤ 7301098 by omega⟩ (fun r9 f9 H locs hp hG => ?_)
  have hM9 : MB G ad f9 cd K V sz th pl dn := hM.keep (fun c h1 h2 => hp.1 c h1)
  refine lv_aload_n S.1 S.2.1 dL_law_399 rfl (lv_at hl 2 rfl) ?_
  refine lv_aload_n S.1 S.2.1 dL_law_400 rfl (lv_at hl 4 rfl) ?_
  refine lv_iload S.1 S.2.1 dL_law_401 (lv_at hl 0 rfl) ?_
  refine lv_iconst (v := nI 1) S.1 S.2.1 dL_law_403 (by decide) ?_
  refine o_add S (a := i) (b := 1) dL_law_404 ?_
  refine o_sld S hG hXs hbl hL (by omega) dL_law_405 ?_
  refine lv_aload_n S.1 S.2.1 dL_law_406 rfl (lv_at hl 4 rfl) ?_
  refine lv_iload S.1 S.2.1 dL_law_407 (lv_at hl 0 rfl) ?_
  refine lv_iconst (v := nI 2) S.1 S.2.1 dL_law_409 (by decide) ?_
  refine o_add S (a := i) (b := 2) dL_law_410 ?_
  refine o_sld S hG hXs hbl hL (by omega) dL_law_411 ?_
  refine o_cVi S (rest := [.int r9]) (c_X3_cut l G ad s.heap.size f9 cd K V sz th pl dn (xs (i + 1)) (xs (i + 2)) hM9 hR.hW hR.1) (cwV 2 S.2.2.2.2 gL_law_X3_cut rfl rfl rfl (by decide +kernel) ⟨(Nat.le_of_ble_eq_true rfl), (Nat.le_of_ble_eq_true rfl)⟩) hG (by decide) hM9.1 rfl rfl hl.1 rfl (Nat.le_of_ble_eq_true rfl) dL_law_412 ⟨show _ ≤ 600128 by omega, show _ ≤ 7301098 by omega⟩ (fun r10 f10 H locs hp3 hG => ?_)
  obtain ⟨er, hLV, g9, hg9⟩ := m_cut (xs (i + 1)) (xs (i + 2)) hX hR hg hp hp3
  refine lv_icmp_eq (tgt := 1628) S.1 S.2.1 dL_law_415 (by decide) (fun _ => ?_) (fun h9 => absurd er h9)
  have k7 := kk _ _ _ _ _ _ hLV hg9 hG (lv_sub hl [0, 1, 2, 3, 4] rfl)
  exact W.widen (by omega) (by omega) k7

set_option maxHeartbeats 4000000 in
set_option maxRecDepth 100000 in
theorem lc_merge {p : Program} {l : Launch} {e : Env} {s : State} {m : MethodId} {below : List Frame} {meth : Method} {c : Code} {Q : State → Prop} {b L : Nat} {xs : Nat → Int32} {G : Gx} {ad : Nat → Nat} {f : Nat → va_E} {H : Heap} {locs : List Loc} {ls : Array Slot} {i cells slots cd : Nat} {g : Nat → Int64} (hst : l.stackTraces = false) (S : CallFix p m c cL_law 8 s #[Value.ref b] wsL_law RL) (hXs : va_X b L xs s s.heap) (hbl : b < s.heap.size) (hL : L ≤ 384) (hLV : LV G ad f cd) (hg : f 83 = eJ G 1 g) (hG : ov_dy G 84 ad s.heap.size s f H locs) (hi : i + 6 ≤ L) (hl : lv_has ls 8 [(4, .int (nI i)), (3, .ref (ad 83)), (2, .ref (ad 76)), (1, .ref (ad 0)), (0, .ref b)]) (hc : cells + 8 ≤ 600128) (hs : slots + 64 ≤ 7301098) (kk : lw_K p l e s m b below meth c Q G ad i cells slots) : W p l e room_1 s m #[Value.ref b] below meth c H locs cells slots Q (F0 m 420 ls []) := by
  obtain ⟨th, cx, kx, vx, px, dx, K, V, sz, pl, dn, hX, hM, hR⟩ := hLV
  refine lv_aload_n S.1 S.2.1 dL_law_420 rfl (lv_at hl 3 rfl) ?_
  refine lv_aload_n S.1 S.2.1 dL_law_421 rfl (lv_at hl 4 rfl) ?_
  refine lv_iload S.1 S.2.1 dL_law_422 (lv_at hl 0 rfl) ?_
  refine lv_iconst (v := nI 1) S.1 S.2.1 dL_law_424 (by decide) ?_
  refine o_add S (a := i) (b := 1) dL_law_425 ?_
  refine o_sld S hG hXs hbl hL (by omega) dL_law_426 ?_
  refine lv_aload_n S.1 S.2.1 dL_law_427 rfl (lv_at hl 1 rfl) ?_
  refine o_cSW S (rest := []) (h_L_merge l G ad s.heap.size f (xs (i + 1)) _ _ (c_X2_merge l hst G ad s.heap.size f th cx kx vx px dx (xs (i + 1)) hX hR.2.2.1) hX.1 (fun r f' h => (h.1 83 (by decide)).trans hg) (fun E h => h.imp And.left And.left)) (vx_cwSW 3 S.2.2.2.2 gL_law_L_merge rfl rfl rfl (by decide +kernel) ⟨(Nat.le_of_ble_eq_true rfl), (Nat.le_of_ble_eq_true rfl)⟩) hG rfl hl.1 rfl (Nat.le_of_ble_eq_true rfl) dL_law_428 ⟨show _ ≤ 600128 by omega, show _ ≤ 7301098 by omega⟩ (fun k9 f9 H locs hp hG => ?_)
  have hM9 := hM.keep (hp_k2 (val := (fun w9 : Int32 => w9.toInt64)) hp (fun w f1 h => h.1))
  refine lv_istore (lv' := [(5, .int k9), (4, .int (nI i)), (3, .ref (ad 83)), (2, .ref (ad 76)), (1, .ref (ad 0)), (0, .ref b)]) S.1 S.2.1 dL_law_431 hl (by decide) rfl (fun ls hl => ?_)
  refine lv_aload_n S.1 S.2.1 dL_law_433 rfl (lv_at hl 3 rfl) ?_
  refine lv_aload_n S.1 S.2.1 dL_law_434 rfl (lv_at hl 5 rfl) ?_
  refine lv_iload S.1 S.2.1 dL_law_435 (lv_at hl 1 rfl) ?_
  refine lv_iconst (v := nI 1) S.1 S.2.1 dL_law_437 (by decide) ?_
  refine o_add S (a := i) (b := 1) dL_law_438 ?_
  refine o_sld S hG hXs hbl hL (by omega) dL_law_439 ?_
  refine o_cVi S (rest := []) (c_X3_merge l G ad s.heap.size f9 cd K V sz th pl dn (xs (i + 1)) hM9 hR.hW hR.1 hR.hS) (cwV 1 S.2.2.2.2 gL_law_X3_merge rfl rfl rfl (by decide +kernel) ⟨(Nat.le_of_ble_eq_true rfl), (Nat.le_of_ble_eq_true rfl)⟩) hG (by decide) hM9.1 rfl rfl hl.1 rfl (Nat.le_of_ble_eq_true rfl) dL_law_440 ⟨show _ ≤ 600128 by omega, show _ ≤ 7301098 by omega⟩ (fun r10 f10 H locs hp3 hG => ?_)
  have hm : MT G ad f10 k9 r10.toInt64 := m_merge (xs (i + 1)) hX hR hg hp hp3
  obtain ⟨cd9, hcd, rfl, hLV, g9, hg9, hv⟩ := hm
  obtain ⟨th9, cx9, kx9, vx9, px9, dx9, K9, V9, sz9, pl9, dn9, hX9, hM10, hR9⟩ := id hLV
  refine lv_istore (lv' := [(6, .int r10), (5, .int (nI cd9)), (4, .int (nI i)), (3, .ref (ad 83)), (2, .ref (ad 76)), (1, .ref (ad 0)), (0, .ref b)]) S.1 S.2.1 dL_law_443 hl (by decide) rfl (fun ls hl => ?_)
  refine lv_aload_n S.1 S.2.1 dL_law_445 rfl (lv_at hl 4 rfl) ?_
  refine o_cVi S (rest := []) (c_X3_thrown l G ad s.heap.size f10 cd9 K9 V9 sz9 th9 pl9 dn9 hM10) (cwV 0 S.2.2.2.2 gL_law_X3_thrown rfl rfl rfl (by decide +kernel) ⟨(Nat.le_of_ble_eq_true rfl), (Nat.le_of_ble_eq_true rfl)⟩) hG (by decide) hM10.1 rfl rfl hl.1 rfl (Nat.le_of_ble_eq_true rfl) dL_law_446 ⟨show _ ≤ 600128 by omega, show _ ≤ 7301098 by omega⟩ (fun r11 f11 H locs hp4 hG => ?_)
  obtain ⟨rfl, rfl⟩ := hp4
  refine lv_iload S.1 S.2.1 dL_law_449 (lv_at hl 1 rfl) ?_
  refine n_eq S (a := cd9) (b := cd9) (tgt := 456) dL_law_451 (by decide) (by omega) (by omega) (fun _ => ?_) (fun h9 => absurd rfl h9)
  refine lv_iload S.1 S.2.1 dL_law_456 (lv_at hl 1 rfl) ?_
  refine n_if_ne S (a := cd9) (tgt := 473) dL_law_458 (by decide) (by omega) (fun _ => ?_) (fun c0 => ?_)
  · skip
    refine lv_goto (tgt := 1628) S.1 S.2.1 dL_law_473 (by decide) ?_
    have k7 := kk _ _ _ _ _ _ hLV hg9 hG (lv_sub hl [2, 3, 4, 5, 6] rfl)
    exact W.widen (by omega) (by omega) k7
  · skip
    refine lv_aload_n S.1 S.2.1 dL_law_461 rfl (lv_at hl 3 rfl) ?_
    refine lv_iconst (v := nI 0) S.1 S.2.1 dL_law_462 (by decide) ?_
    refine o_lald S hG (j := 0) (by decide) hg9 (by decide) dL_law_463 (kk := ?_)
    refine lv_iload S.1 S.2.1 dL_law_464 (lv_at hl 0 rfl) ?_
    refine lv_i2l (v := r10.toInt64) S.1 S.2.1 dL_law_466 rfl ?_
    refine W.lcmp S.1 S.2.1 dL_law_467 ?_
    refine lv_if_eq (tgt := 473) S.1 S.2.1 dL_law_468 (by decide) (fun _ => ?_) (fun h9 => absurd ((lg_cmp_eq _ _).mpr (hv c0)) h9)
    refine lv_goto (tgt := 1628) S.1 S.2.1 dL_law_473 (by decide) ?_
    have k7 := kk _ _ _ _ _ _ hLV hg9 hG (lv_sub hl [2, 3, 4, 5, 6] rfl)
    exact W.widen (by omega) (by omega) k7

set_option maxHeartbeats 4000000 in
set_option maxRecDepth 100000 in
theorem lc_snapshot {p : Program} {l : Launch} {e : Env} {s : State} {m : MethodId} {below : List Frame} {meth : Method} {c : Code} {Q : State → Prop} {b L : Nat} {xs : Nat → Int32} {G : Gx} {ad : Nat → Nat} {f : Nat → va_E} {H : Heap} {locs : List Loc} {ls : Array Slot} {i cells slots cd : Nat} {g : Nat → Int64} (hst : l.stackTraces = false) (S : CallFix p m c cL_law 8 s #[Value.ref b] wsL_law RL) (hXs : va_X b L xs s s.heap) (hbl : b < s.heap.size) (hL : L ≤ 384) (hLV : LV G ad f cd) (hg : f 83 = eJ G 1 g) (hG : ov_dy G 84 ad s.heap.size s f H locs) (hi : i + 6 ≤ L) (hl : lv_has ls 8 [(4, .int (nI i)), (3, .ref (ad 83)), (2, .ref (ad 76)), (1, .ref (ad 0)), (0, .ref b)]) (hc : cells + 8 ≤ 600128) (hs : slots + 64 ≤ 7301098) (kk : lw_K p l e s m b below meth c Q G ad i cells slots) : W p l e room_1 s m #[Value.ref b] below meth c H locs cells slots Q (F0 m 476 ls []) := by
  obtain ⟨th, cx, kx, vx, px, dx, K, V, sz, pl, dn, hX, hM, hR⟩ := hLV
  refine lv_aload_n S.1 S.2.1 dL_law_476 rfl (lv_at hl 3 rfl) ?_
  refine lv_aload_n S.1 S.2.1 dL_law_477 rfl (lv_at hl 1 rfl) ?_
  refine o_cSW S (rest := []) (h_L_snapshot l G ad s.heap.size f _ _ (c_X2_snapshot l hst G ad s.heap.size f th cx kx vx px dx hX hR.2.2.1) hX.1 (fun r f' h => (h.1 83 (by decide)).trans hg) (fun E h => h.1)) (vx_cwSW 2 S.2.2.2.2 gL_law_L_snapshot rfl rfl rfl (by decide +kernel) ⟨(Nat.le_of_ble_eq_true rfl), (Nat.le_of_ble_eq_true rfl)⟩) hG rfl hl.1 rfl (Nat.le_of_ble_eq_true rfl) dL_law_478 ⟨show _ ≤ 600128 by omega, show _ ≤ 7301098 by omega⟩ (fun k9 f9 H locs hp hG => ?_)
  have hM9 := hM.keep (hp_k1 (val := (fun w9 : Int32 => w9.toInt64)) hp (fun w f1 h => h.1))
  refine lv_istore (lv' := [(5, .int k9), (4, .int (nI i)), (3, .ref (ad 83)), (2, .ref (ad 76)), (1, .ref (ad 0)), (0, .ref b)]) S.1 S.2.1 dL_law_481 hl (by decide) rfl (fun ls hl => ?_)
  refine lv_aload_n S.1 S.2.1 dL_law_483 rfl (lv_at hl 3 rfl) ?_
  refine o_cVi S (rest := []) (c_X3_snapshot l G ad s.heap.size f9 cd K V sz th pl dn hM9 hR.hW hR.1) (cwV 0 S.2.2.2.2 gL_law_X3_snapshot rfl rfl rfl (by decide +kernel) ⟨(Nat.le_of_ble_eq_true rfl), (Nat.le_of_ble_eq_true rfl)⟩) hG (by decide) hM9.1 rfl rfl hl.1 rfl (Nat.le_of_ble_eq_true rfl) dL_law_484 ⟨show _ ≤ 600128 by omega, show _ ≤ 7301098 by omega⟩ (fun r10 f10 H locs hp3 hG => ?_)
  have hm : MT G ad f10 k9 r10.toInt64 := m_snapshot hX hR hg (hp.imp_right Or.inl) hp3
  obtain ⟨cd9, hcd, rfl, hLV, g9, hg9, hv⟩ := hm
  obtain ⟨th9, cx9, kx9, vx9, px9, dx9, K9, V9, sz9, pl9, dn9, hX9, hM10, hR9⟩ := id hLV
  refine lv_istore (lv' := [(6, .int r10), (5, .int (nI cd9)), (4, .int (nI i)), (3, .ref (ad 83)), (2, .ref (ad 76)), (1, .ref (ad 0)), (0, .ref b)]) S.1 S.2.1 dL_law_487 hl (by decide) rfl (fun ls hl => ?_)
  refine lv_aload_n S.1 S.2.1 dL_law_489 rfl (lv_at hl 4 rfl) ?_
  refine o_cVi S (rest := []) (c_X3_thrown l G ad s.heap.size f10 cd9 K9 V9 sz9 th9 pl9 dn9 hM10) (cwV 0 S.2.2.2.2 gL_law_X3_thrown rfl rfl rfl (by decide +kernel) ⟨(Nat.le_of_ble_eq_true rfl), (Nat.le_of_ble_eq_true rfl)⟩) hG (by decide) hM10.1 rfl rfl hl.1 rfl (Nat.le_of_ble_eq_true rfl) dL_law_490 ⟨show _ ≤ 600128 by omega, show _ ≤ 7301098 by omega⟩ (fun r11 f11 H locs hp4 hG => ?_)
  obtain ⟨rfl, rfl⟩ := hp4
  refine lv_iload S.1 S.2.1 dL_law_493 (lv_at hl 1 rfl) ?_
  refine n_eq S (a := cd9) (b := cd9) (tgt := 500) dL_law_495 (by decide) (by omega) (by omega) (fun _ => ?_) (fun h9 => absurd rfl h9)
  refine lv_iload S.1 S.2.1 dL_law_500 (lv_at hl 1 rfl) ?_
  refine n_if_ne S (a := cd9) (tgt := 517) dL_law_502 (by decide) (by omega) (fun _ => ?_) (fun c0 => ?_)
  · skip
    refine lv_goto (tgt := 1628) S.1 S.2.1 dL_law_517 (by decide) ?_
    have k7 := kk _ _ _ _ _ _ hLV hg9 hG (lv_sub hl [2, 3, 4, 5, 6] rfl)
    exact W.widen (by omega) (by omega) k7
  · skip
    refine lv_aload_n S.1 S.2.1 dL_law_505 rfl (lv_at hl 3 rfl) ?_
    refine lv_iconst (v := nI 0) S.1 S.2.1 dL_law_506 (by decide) ?_
    refine o_lald S hG (j := 0) (by decide) hg9 (by decide) dL_law_507 (kk := ?_)
    refine lv_iload S.1 S.2.1 dL_law_508 (lv_at hl 0 rfl) ?_
    refine lv_i2l (v := r10.toInt64) S.1 S.2.1 dL_law_510 rfl ?_
    refine W.lcmp S.1 S.2.1 dL_law_511 ?_
    refine lv_if_eq (tgt := 517) S.1 S.2.1 dL_law_512 (by decide) (fun _ => ?_) (fun h9 => absurd ((lg_cmp_eq _ _).mpr (hv c0)) h9)
    refine lv_goto (tgt := 1628) S.1 S.2.1 dL_law_517 (by decide) ?_
    have k7 := kk _ _ _ _ _ _ hLV hg9 hG (lv_sub hl [2, 3, 4, 5, 6] rfl)
    exact W.widen (by omega) (by omega) k7

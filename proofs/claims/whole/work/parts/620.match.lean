section OVQ
theorem m_put {G : Gx} {ad : Nat → Nat} {f : Nat → va_E} {th : Nat → Bool} {cx : Nat → Nat} {kx vx : Nat → Nat → Int32} {px : Nat → Int} {dx : Nat → Bool} {K V : Nat → Int32} {sz : Nat → Nat} {pl : Nat → Int} {dn : Nat → Bool} {g : Nat → Int64} (key w : Int32) (hX : RX G ad f th cx kx vx px dx) (hR : RLx th cx kx vx px dx K V sz pl dn) (hg : f 83 = eJ G 1 g) {r1 : Int32} {r2 : Int32} {f1 f2 : Nat → va_E} (h1 : HP G f g (fun r f' => OnX f f' ∧ ((hs (cx 0) (kx 0) key = true ∧ r = nI 0 ∧ RX G ad f' th cx kx (va_up vx 0 (upd (vx 0) (bel (cx 0) (kx 0) key) w)) px dx) ∨ (hs (cx 0) (kx 0) key = false ∧ cx 0 < 600 ∧ r = nI 1 ∧ ∃ k2 v2, RX G ad f' th (va_up cx 0 (cx 0 + 1)) (va_up kx 0 k2) (va_up vx 0 v2) px dx ∧ ∀ i, i < cx 0 + 1 → k2 i = insF (kx 0) (bel (cx 0) (kx 0) key) key i ∧ v2 i = insF (vx 0) (bel (cx 0) (kx 0) key) w i))) (fun w9 : Int32 => if w9 = 0 then lN 0 else lN 1) ((fun E => E = xUO ∧ hs (cx 0) (kx 0) key = false ∧ cx 0 = 600) xUO) False r1 f1) (h3 : (fun (f : Nat → va_E) => (fun r f' => OnM f f' ∧ ((hs (sz 0) (of K 0) key = true ∧ r = nI 0 ∧ MB G ad f' 0 K (upd V (bel (sz 0) (of K 0) key) w) sz th pl dn) ∨ (hs (sz 0) (of K 0) key = false ∧ sz 0 = 600 ∧ MB G ad f' 1 K V sz th pl dn) ∨ (hs (sz 0) (of K 0) key = false ∧ sz 0 < 600 ∧ r = nI 1 ∧ ∃ K2 V2, MB G ad f' 0 K2 V2 (va_up sz 0 (sz 0 + 1)) th pl dn ∧ (∀ i, i < sz 0 + 1 → K2 i = insF K (bel (sz 0) (of K 0) key) key i ∧ V2 i = insF V (bel (sz 0) (of K 0) key) w i) ∧ ∀ i, 600 ≤ i → K2 i = K i ∧ V2 i = V i)))) f1 r2 f2) : MT G ad f2 r1 (if r2 = 0 then lN 0 else lN 1) := by
  have ht0 := hR.1
  have hn0 := hR.n (show 0 < 21 by decide)
  have hs0 := hR.s (show 0 < 21 by decide)
  have hz0 := hR.zs (show 0 < 21 by decide) ht0
  have hk0 := hR.k (show 0 < 21 by decide) ht0
  have hkv0 : ∀ i, i < cx 0 → K i = kx 0 i ∧ V i = vx 0 i := fun i hi => by have h9 := hR.kv (show 0 < 21 by decide) ht0 i hi; simp only [of, Nat.mul_zero, Nat.zero_add] at h9; exact h9
  obtain ⟨hO, h3⟩ := h3
  rcases h1 with ⟨rfl, w9, fa, hp, e1⟩ | ⟨rfl, hp, e1⟩ | ⟨-, hp, -⟩
  · obtain ⟨-, hp⟩ := hp
    rw [hz0, hs_congr hk0, bel_congr hk0] at h3
    rcases hp with ⟨hh, rfl, hX2⟩ | ⟨hh, hlt, rfl, k2, v2, hX2, hkv⟩
    · rcases h3 with ⟨-, rfl, hM⟩ | ⟨hh2, -⟩ | ⟨hh2, -⟩
      · have hb := (of_decide_eq_true hh).1
        refine MT.ok hX2 e1 hO hM (hR.put (j := 0) (n := cx 0) (k2 := kx 0) (by decide) (up_tt ht0) (up_id _ _).symm (up_id _ _).symm (by rw [← hz0, up_id]) hn0 hs0 (fun i hi => ?_) (fun x hx => ?_)) rfl
        · rw [show 600 * 0 + i = i by omega]
          refine ⟨(hkv0 i hi).1, ?_⟩
          simp only [upd]; split
          · rfl
          · exact (hkv0 i hi).2
        · refine ⟨rfl, ?_⟩
          simp only [upd]; rw [if_neg (by omega)]
      · rw [hh] at hh2; cases hh2
      · rw [hh] at hh2; cases hh2
    · rcases h3 with ⟨hh2, -⟩ | ⟨-, h6, -⟩ | ⟨-, -, rfl, K2, V2, hM, hK2, hK3⟩
      · rw [hh] at hh2; cases hh2
      · omega
      · have hb := bel_le (cx 0) (kx 0) key
        refine MT.ok hX2 e1 hO hM (hR.put (j := 0) (n := cx 0 + 1) (k2 := k2) (by decide) (up_tt ht0) rfl rfl rfl (by omega) (Srt_congr (fun i hi => (hkv i hi).1.symm) (ins_srt hs0 hh)) (fun i hi => ?_) (fun x hx => hK3 x (by omega))) rfl
        rw [show 600 * 0 + i = i by omega, (hK2 i hi).1, (hK2 i hi).2, (hkv i hi).1, (hkv i hi).2]
        exact ⟨insF_congr (fun i hi => (hkv0 i hi).1) hb _ hi, insF_congr (fun i hi => (hkv0 i hi).2) hb _ hi⟩
  · obtain ⟨-, hh, h6⟩ := hp
    rw [hz0, hs_congr hk0, bel_congr hk0] at h3
    rcases h3 with ⟨hh2, -⟩ | ⟨-, -, hM⟩ | ⟨-, h7, -⟩
    · rw [hh] at hh2; cases hh2
    · exact MT.no hX hg e1 hO hM hR (Or.inl rfl)
    · omega
  · exact hp.elim
theorem m_remove {G : Gx} {ad : Nat → Nat} {f : Nat → va_E} {th : Nat → Bool} {cx : Nat → Nat} {kx vx : Nat → Nat → Int32} {px : Nat → Int} {dx : Nat → Bool} {K V : Nat → Int32} {sz : Nat → Nat} {pl : Nat → Int} {dn : Nat → Bool} {g : Nat → Int64} (key : Int32) (hX : RX G ad f th cx kx vx px dx) (hR : RLx th cx kx vx px dx K V sz pl dn) (hg : f 83 = eJ G 1 g) {r1 : Int32} {r2 : Int32} {f1 f2 : Nat → va_E} (h1 : HP G f g (fun r f' => OnX f f' ∧ hs (cx 0) (kx 0) key = true ∧ r = vx 0 (bel (cx 0) (kx 0) key) ∧ ∃ k2 v2, RX G ad f' th (va_up cx 0 (cx 0 - 1)) (va_up kx 0 k2) (va_up vx 0 v2) px dx ∧ ∀ i, i < cx 0 - 1 → k2 i = delF (kx 0) (bel (cx 0) (kx 0) key) 1 i ∧ v2 i = delF (vx 0) (bel (cx 0) (kx 0) key) 1 i) (fun w9 : Int32 => w9.toInt64) ((fun E => E = xNS ∧ hs (cx 0) (kx 0) key = false) xNS) False r1 f1) (h3 : (fun (f : Nat → va_E) => (fun r f' => OnM f f' ∧ ((hs (sz 0) (of K 0) key = true ∧ r = V (bel (sz 0) (of K 0) key) ∧ ∃ K2 V2, MB G ad f' 0 K2 V2 (va_up sz 0 (sz 0 - 1)) th pl dn ∧ (∀ i, i < sz 0 - 1 → K2 i = delF K (bel (sz 0) (of K 0) key) 1 i ∧ V2 i = delF V (bel (sz 0) (of K 0) key) 1 i) ∧ ∀ i, 600 ≤ i → K2 i = K i ∧ V2 i = V i) ∨ (hs (sz 0) (of K 0) key = false ∧ MB G ad f' 1 K V sz th pl dn)))) f1 r2 f2) : MT G ad f2 r1 r2.toInt64 := by
  have ht0 := hR.1
  have hn0 := hR.n (show 0 < 21 by decide)
  have hs0 := hR.s (show 0 < 21 by decide)
  have hz0 := hR.zs (show 0 < 21 by decide) ht0
  have hk0 := hR.k (show 0 < 21 by decide) ht0
  have hkv0 : ∀ i, i < cx 0 → K i = kx 0 i ∧ V i = vx 0 i := fun i hi => by have h9 := hR.kv (show 0 < 21 by decide) ht0 i hi; simp only [of, Nat.mul_zero, Nat.zero_add] at h9; exact h9
  obtain ⟨hO, h3⟩ := h3
  rcases h1 with ⟨rfl, w9, fa, hp, e1⟩ | ⟨rfl, hp, e1⟩ | ⟨-, hp, -⟩
  · obtain ⟨-, hh, rfl, k2, v2, hX2, hkv⟩ := hp
    rw [hz0, hs_congr hk0, bel_congr hk0] at h3
    rcases h3 with ⟨-, rfl, K2, V2, hM, hK2, hK3⟩ | ⟨hh2, -⟩
    · have hb := (of_decide_eq_true hh).1
      refine MT.ok hX2 e1 hO hM (hR.put (j := 0) (n := cx 0 - 1) (k2 := k2) (by decide) (up_tt ht0) rfl rfl rfl (by omega) (Srt_congr (fun i hi => (hkv i hi).1.symm) (del_srt hs0 (by omega))) (fun i hi => ?_) (fun x hx => hK3 x (by omega))) (by rw [(hkv0 _ hb).2])
      rw [show 600 * 0 + i = i by omega, (hK2 i hi).1, (hK2 i hi).2, (hkv i hi).1, (hkv i hi).2]
      exact ⟨delF_congr (fun i hi => (hkv0 i hi).1) (by omega) hi, delF_congr (fun i hi => (hkv0 i hi).2) (by omega) hi⟩
    · rw [hh] at hh2; cases hh2
  · obtain ⟨-, hh⟩ := hp
    rw [hz0, hs_congr hk0, bel_congr hk0] at h3
    rcases h3 with ⟨hh2, -⟩ | ⟨-, hM⟩
    · rw [hh] at hh2; cases hh2
    · exact MT.no hX hg e1 hO hM hR (Or.inl rfl)
  · exact hp.elim
theorem m_load {G : Gx} {ad : Nat → Nat} {f : Nat → va_E} {th : Nat → Bool} {cx : Nat → Nat} {kx vx : Nat → Nat → Int32} {px : Nat → Int} {dx : Nat → Bool} {K V : Nat → Int32} {sz : Nat → Nat} {pl : Nat → Int} {dn : Nat → Bool} {g : Nat → Int64} (first step n times more : Int32) (hX : RX G ad f th cx kx vx px dx) (hR : RLx th cx kx vx px dx K V sz pl dn) (hg : f 83 = eJ G 1 g) {r1 : Int32} {r2 : Int32} {f1 f2 : Nat → va_E} (h1 : HP G f g (fun r f' => OnX f f' ∧ ∃ w, w ≤ 600 ∧ n = nI w ∧ gld first step n = true ∧ r = nI (cx 0) ∧ ∃ k2 v2, RX G ad f' th (va_up cx 0 (w)) (va_up kx 0 k2) (va_up vx 0 v2) px dx ∧ ∀ z, z < w → k2 z = first + (step * (nI z)) ∧ v2 z = times * (first + (step * (nI z))) + more) (fun w9 : Int32 => w9.toInt64) ((fun E => E = xIA ∧ gld first step n = false) xIA) False r1 f1) (h3 : (fun (f : Nat → va_E) => (fun r f' => OnM f f' ∧ ((∃ w, w ≤ 600 ∧ n = nI w ∧ gld first step n = true ∧ r = nI (sz 0) ∧ ∃ K2 V2, MB G ad f' 0 K2 V2 (va_up sz 0 w) th pl dn ∧ (∀ z, z < w → K2 z = first + nI z * step ∧ V2 z = times * (first + nI z * step) + more) ∧ ∀ i, 600 ≤ i → K2 i = K i ∧ V2 i = V i) ∨ (gld first step n = false ∧ MB G ad f' 1 K V sz th pl dn)))) f1 r2 f2) : MT G ad f2 r1 r2.toInt64 := by
  have ht0 := hR.1
  have hn0 := hR.n (show 0 < 21 by decide)
  have hs0 := hR.s (show 0 < 21 by decide)
  have hz0 := hR.zs (show 0 < 21 by decide) ht0
  have hk0 := hR.k (show 0 < 21 by decide) ht0
  have hkv0 : ∀ i, i < cx 0 → K i = kx 0 i ∧ V i = vx 0 i := fun i hi => by have h9 := hR.kv (show 0 < 21 by decide) ht0 i hi; simp only [of, Nat.mul_zero, Nat.zero_add] at h9; exact h9
  obtain ⟨hO, h3⟩ := h3
  rcases h1 with ⟨rfl, w9, fa, hp, e1⟩ | ⟨rfl, hp, e1⟩ | ⟨-, hp, -⟩
  · obtain ⟨-, w, hw, rfl, hl, rfl, k2, v2, hX2, hkv⟩ := hp
    rcases h3 with ⟨w2, hw2, ew, -, rfl, K2, V2, hM, hK2, hK3⟩ | ⟨hl2, -⟩
    · obtain rfl : w = w2 := (nI_eq (by omega) (by omega)).mp ew
      refine MT.ok hX2 e1 hO hM (hR.put (j := 0) (n := w) (k2 := k2) (by decide) (up_tt ht0) rfl rfl rfl hw (Srt_congr (fun i hi => (hkv i hi).1.symm) (ld_srt hw hl)) (fun i hi => ?_) (fun x hx => hK3 x (by omega))) (by rw [hz0])
      rw [show 600 * 0 + i = i by omega, (hK2 i hi).1, (hK2 i hi).2, (hkv i hi).1, (hkv i hi).2, Int32.mul_comm (nI i) step]
      exact ⟨rfl, rfl⟩
    · rw [hl] at hl2; cases hl2
  · obtain ⟨-, hl⟩ := hp
    rcases h3 with ⟨w2, hw2, rfl, hl2, -⟩ | ⟨-, hM⟩
    · rw [hl] at hl2; cases hl2
    · exact MT.no hX hg e1 hO hM hR (Or.inl rfl)
  · exact hp.elim
theorem m_merge {G : Gx} {ad : Nat → Nat} {f : Nat → va_E} {th : Nat → Bool} {cx : Nat → Nat} {kx vx : Nat → Nat → Int32} {px : Nat → Int} {dx : Nat → Bool} {K V : Nat → Int32} {sz : Nat → Nat} {pl : Nat → Int} {dn : Nat → Bool} {g : Nat → Int64} (v : Int32) (hX : RX G ad f th cx kx vx px dx) (hR : RLx th cx kx vx px dx K V sz pl dn) (hg : f 83 = eJ G 1 g) {r1 : Int32} {r2 : Int32} {f1 f2 : Nat → va_E} (h1 : HP G f g (fun r f' => OnX f f' ∧ ∃ j, j ≤ 12 ∧ v = nI j ∧ th j = true ∧ cx 0 + cnt (cx j) (fun z => !hs (cx 0) (kx 0) (kx j z)) ≤ 600 ∧ r = nI (cnt (cx j) (fun z => !hs (cx 0) (kx 0) (kx j z))) ∧ ∃ k2 v2, RX G ad f' th (va_up cx 0 (cx 0 + cnt (cx j) (fun z => !hs (cx 0) (kx 0) (kx j z)))) (va_up kx 0 k2) (va_up vx 0 v2) px dx ∧ Srt (cx 0 + cnt (cx j) (fun z => !hs (cx 0) (kx 0) (kx j z))) k2 ∧ ∀ x y, Has (cx 0 + cnt (cx j) (fun z => !hs (cx 0) (kx 0) (kx j z))) k2 v2 x y ↔ Has (cx 0) (kx 0) (vx 0) x y ∨ (hs (cx 0) (kx 0) x = false ∧ Has (cx j) (kx j) (vx j) x y)) (fun w9 : Int32 => w9.toInt64) ((fun E => (E = xIO ∧ isv th v = false) ∨ (E = xUO ∧ ∃ j, j ≤ 12 ∧ v = nI j ∧ th j = true ∧ 600 < cx 0 + cnt (cx j) (fun z => !hs (cx 0) (kx 0) (kx j z)))) xIO) ((fun E => (E = xIO ∧ isv th v = false) ∨ (E = xUO ∧ ∃ j, j ≤ 12 ∧ v = nI j ∧ th j = true ∧ 600 < cx 0 + cnt (cx j) (fun z => !hs (cx 0) (kx 0) (kx j z)))) xUO) r1 f1) (h3 : (fun (f : Nat → va_E) => (fun r f' => OnM f f' ∧ ((∃ j, j ≤ 12 ∧ v = nI j ∧ th j = true ∧ ((sz 0 + cnt (sz j) (fun z => !hs (sz 0) (of K 0) (of K j z)) ≤ 600 ∧ r = nI (cnt (sz j) (fun z => !hs (sz 0) (of K 0) (of K j z))) ∧ ∃ K2 V2, MB G ad f' 0 K2 V2 (va_up sz 0 (sz 0 + cnt (sz j) (fun z => !hs (sz 0) (of K 0) (of K j z)))) th pl dn ∧ Srt (sz 0 + cnt (sz j) (fun z => !hs (sz 0) (of K 0) (of K j z))) (of K2 0) ∧ (∀ x y, Has (sz 0 + cnt (sz j) (fun z => !hs (sz 0) (of K 0) (of K j z))) (of K2 0) (of V2 0) x y ↔ Has (sz 0) (of K 0) (of V 0) x y ∨ (hs (sz 0) (of K 0) x = false ∧ Has (sz j) (of K j) (of V j) x y)) ∧ ∀ i, 600 ≤ i → K2 i = K i ∧ V2 i = V i) ∨ (600 < sz 0 + cnt (sz j) (fun z => !hs (sz 0) (of K 0) (of K j z)) ∧ MB G ad f' 2 K V sz th pl dn))) ∨ (isv th v = false ∧ MB G ad f' 1 K V sz th pl dn)))) f1 r2 f2) : MT G ad f2 r1 r2.toInt64 := by
  have ht0 := hR.1
  have hn0 := hR.n (show 0 < 21 by decide)
  have hs0 := hR.s (show 0 < 21 by decide)
  have hz0 := hR.zs (show 0 < 21 by decide) ht0
  have hk0 := hR.k (show 0 < 21 by decide) ht0
  have hkv0 : ∀ i, i < cx 0 → K i = kx 0 i ∧ V i = vx 0 i := fun i hi => by have h9 := hR.kv (show 0 < 21 by decide) ht0 i hi; simp only [of, Nat.mul_zero, Nat.zero_add] at h9; exact h9
  obtain ⟨hO, h3⟩ := h3
  rcases h1 with ⟨rfl, w9, fa, hp, e1⟩ | ⟨rfl, hp, e1⟩ | ⟨rfl, hp, e1⟩
  · obtain ⟨-, j, hj, rfl, ht, h6, rfl, k2, v2, hX2, hS2, hH⟩ := hp
    rcases h3 with ⟨j2, hj2, ej, ht2, h3⟩ | ⟨hn, -⟩
    · obtain rfl := v_in hj hj2 ej
      have hkj := hR.k (show j < 21 by omega) ht
      have hzj := hR.zs (show j < 21 by omega) ht
      have ec : cnt (sz j) (fun z => !hs (sz 0) (of K 0) (of K j z)) = cnt (cx j) (fun z => !hs (cx 0) (kx 0) (kx j z)) := by
        rw [hzj, hz0]
        exact cnt_congr (fun i hi => by show (!hs (cx 0) (of K 0) (of K j i)) = (!hs (cx 0) (kx 0) (kx j i)); rw [hkj i hi, hs_congr hk0])
      rw [ec, hz0] at h3
      rcases h3 with ⟨-, rfl, K2, V2, hM, hS3, hH3, hK3⟩ | ⟨h7, -⟩
      · refine MT.ok hX2 e1 hO hM (hR.put (j := 0) (k2 := k2) (by decide) (up_tt ht0) rfl rfl rfl h6 hS2 (fun i hi => ?_) (fun x hx => hK3 x (by omega))) rfl
        refine srt_uniq (v := of V2 0) (v2 := v2) hS3 hS2 (fun x y => ?_) i hi
        rw [hH3 x y, hH x y, hs_congr hk0 x, hzj, Has_congr (hR.kv (show 0 < 21 by decide) ht0) x y, Has_congr (hR.kv (show j < 21 by omega) ht) x y]
      · omega
    · exact no_v hj ht hn
  · rcases hp with ⟨-, hn⟩ | ⟨h, -⟩
    · rcases h3 with ⟨j2, hj2, rfl, ht2, -⟩ | ⟨-, hM⟩
      · exact no_v hj2 ht2 hn
      · exact MT.no hX hg e1 hO hM hR (Or.inl rfl)
    · exact absurd h (by decide)
  · rcases hp with ⟨h, -⟩ | ⟨-, j, hj, rfl, ht, h6⟩
    · exact absurd h (by decide)
    · rcases h3 with ⟨j2, hj2, ej, ht2, h3⟩ | ⟨hn, -⟩
      · obtain rfl := v_in hj hj2 ej
        have hkj := hR.k (show j < 21 by omega) ht
        have hzj := hR.zs (show j < 21 by omega) ht
        have ec : cnt (sz j) (fun z => !hs (sz 0) (of K 0) (of K j z)) = cnt (cx j) (fun z => !hs (cx 0) (kx 0) (kx j z)) := by
          rw [hzj, hz0]
          exact cnt_congr (fun i hi => by show (!hs (cx 0) (of K 0) (of K j i)) = (!hs (cx 0) (kx 0) (kx j i)); rw [hkj i hi, hs_congr hk0])
        rw [ec, hz0] at h3
        rcases h3 with ⟨h7, -⟩ | ⟨-, hM⟩
        · omega
        · exact MT.no hX hg e1 hO hM hR (Or.inr rfl)
      · exact no_v hj ht hn
theorem m_snapshot {G : Gx} {ad : Nat → Nat} {f : Nat → va_E} {th : Nat → Bool} {cx : Nat → Nat} {kx vx : Nat → Nat → Int32} {px : Nat → Int} {dx : Nat → Bool} {K V : Nat → Int32} {sz : Nat → Nat} {pl : Nat → Int} {dn : Nat → Bool} {g : Nat → Int64}  (hX : RX G ad f th cx kx vx px dx) (hR : RLx th cx kx vx px dx K V sz pl dn) (hg : f 83 = eJ G 1 g) {r1 : Int32} {r2 : Int32} {f1 f2 : Nat → va_E} (h1 : HP G f g (fun r f' => OnX f f' ∧ ∃ i, 1 ≤ i ∧ i ≤ 12 ∧ th i = false ∧ (∀ z, 1 ≤ z → z < i → th z = true) ∧ r = nI i ∧ ∃ k3 v3, RX G ad f' (va_up th i true) (va_up cx i (cx 0)) (va_up kx i k3) (va_up vx i v3) px dx ∧ ∀ z, z < cx 0 → k3 z = kx 0 z ∧ v3 z = vx 0 z) (fun w9 : Int32 => w9.toInt64) ((fun E => E = xUO ∧ ∀ z, 1 ≤ z → z ≤ 12 → th z = true) xUO) False r1 f1) (h3 : (fun (f : Nat → va_E) => (fun r f' => OnM f f' ∧ ((∃ j, 1 ≤ j ∧ j ≤ 12 ∧ th j = false ∧ (∀ i, 1 ≤ i → i < j → th i = true) ∧ r = nI j ∧ ∃ K2 V2, MB G ad f' 0 K2 V2 (va_up sz j (sz 0)) (va_up th j true) pl dn ∧ (∀ i, i < sz 0 → K2 (600 * j + i) = K (600 * 0 + i) ∧ V2 (600 * j + i) = V (600 * 0 + i)) ∧ ∀ x, x < 600 * j ∨ 600 * j + 600 ≤ x → K2 x = K x ∧ V2 x = V x) ∨ ((∀ i, 1 ≤ i → i ≤ 12 → th i = true) ∧ MB G ad f' 1 K V sz th pl dn)))) f1 r2 f2) : MT G ad f2 r1 r2.toInt64 := by
  have ht0 := hR.1
  have hn0 := hR.n (show 0 < 21 by decide)
  have hs0 := hR.s (show 0 < 21 by decide)
  have hz0 := hR.zs (show 0 < 21 by decide) ht0
  have hk0 := hR.k (show 0 < 21 by decide) ht0
  have hkv0 : ∀ i, i < cx 0 → K i = kx 0 i ∧ V i = vx 0 i := fun i hi => by have h9 := hR.kv (show 0 < 21 by decide) ht0 i hi; simp only [of, Nat.mul_zero, Nat.zero_add] at h9; exact h9
  obtain ⟨hO, h3⟩ := h3
  rcases h1 with ⟨rfl, w9, fa, hp, e1⟩ | ⟨rfl, hp, e1⟩ | ⟨-, hp, -⟩
  · obtain ⟨-, i, hi1, hi2, hti, hlo, rfl, k3, v3, hX2, hkv⟩ := hp
    rcases h3 with ⟨j, hj1, hj2, htj, hlo2, rfl, K2, V2, hM, hK2, hK3⟩ | ⟨hall, -⟩
    · obtain rfl : i = j := by
        rcases Nat.lt_trichotomy i j with q | q | q
        · rw [hlo2 i hi1 q] at hti; cases hti
        · exact q
        · rw [hlo j hj1 q] at htj; cases htj
      rw [hz0] at hM hK2
      refine MT.ok hX2 e1 hO hM (hR.put (j := i) (k2 := k3) hi2 rfl rfl rfl rfl hn0 (Srt_congr (fun z hz => (hkv z hz).1.symm) hs0) (fun z hz => ?_) hK3) rfl
      rw [(hK2 z hz).1, (hK2 z hz).2, (hkv z hz).1, (hkv z hz).2, show 600 * 0 + z = z by omega]
      exact hkv0 z hz
    · rw [hall i hi1 hi2] at hti; cases hti
  · obtain ⟨-, hall⟩ := hp
    rcases h3 with ⟨j, hj1, hj2, htj, -⟩ | ⟨-, hM⟩
    · rw [hall j hj1 hj2] at htj; cases htj
    · exact MT.no hX hg e1 hO hM hR (Or.inl rfl)
  · exact hp.elim
theorem m_release {G : Gx} {ad : Nat → Nat} {f : Nat → va_E} {th : Nat → Bool} {cx : Nat → Nat} {kx vx : Nat → Nat → Int32} {px : Nat → Int} {dx : Nat → Bool} {K V : Nat → Int32} {sz : Nat → Nat} {pl : Nat → Int} {dn : Nat → Bool} {g : Nat → Int64} (v : Int32) (hX : RX G ad f th cx kx vx px dx) (hR : RLx th cx kx vx px dx K V sz pl dn) (hg : f 83 = eJ G 1 g) {r1 : Int32} {r2 : Int32} {f1 f2 : Nat → va_E} (h1 : HP G f g (fun r f' => OnX f f' ∧ ∃ j, 1 ≤ j ∧ j ≤ 12 ∧ v = nI j ∧ th j = true ∧ r = nI (cnt (13 - 1) (fun z => va_up th j false (1 + z))) ∧ RX G ad f' (va_up th j false) (va_up cx j 0) kx vx px dx) (fun w9 : Int32 => w9.toInt64) ((fun E => E = xIO ∧ iss th v = false) xIO) False r1 f1) (h3 : (fun (f : Nat → va_E) => (fun r f' => OnM f f' ∧ ((iss th v = true ∧ r = nI (cnt 12 (fun z => va_up th v.toInt.toNat false (z + 1))) ∧ MB G ad f' 0 K V sz (va_up th v.toInt.toNat false) pl dn) ∨ (iss th v = false ∧ MB G ad f' 1 K V sz th pl dn)))) f1 r2 f2) : MT G ad f2 r1 r2.toInt64 := by
  obtain ⟨hO, h3⟩ := h3
  rcases h1 with ⟨rfl, w9, fa, hp, e1⟩ | ⟨rfl, hp, e1⟩ | ⟨-, hp, -⟩
  · obtain ⟨-, j, hj1, hj, rfl, ht, rfl, hX2⟩ := hp
    rcases h3 with ⟨-, rfl, hM⟩ | ⟨hn, -⟩
    · have ej : (nI j).toInt.toNat = j := by rw [nI_toInt (by omega)]; simp
      rw [ej] at hM ⊢
      refine MT.ok hX2 e1 hO hM (hR.rel hj1 hj) ?_
      refine congrArg (fun n : Nat => (nI n).toInt64) ?_
      exact cnt_congr (fun i _ => by show va_up th j false (1 + i) = va_up th j false (i + 1); rw [Nat.add_comm])
    · exact no_s hj1 hj ht hn
  · obtain ⟨-, hn⟩ := hp
    rcases h3 with ⟨hn2, -⟩ | ⟨-, hM⟩
    · rw [hn] at hn2; cases hn2
    · exact MT.no hX hg e1 hO hM hR (Or.inl rfl)
  · exact hp.elim
theorem m_restore {G : Gx} {ad : Nat → Nat} {f : Nat → va_E} {th : Nat → Bool} {cx : Nat → Nat} {kx vx : Nat → Nat → Int32} {px : Nat → Int} {dx : Nat → Bool} {K V : Nat → Int32} {sz : Nat → Nat} {pl : Nat → Int} {dn : Nat → Bool} {g : Nat → Int64} (v : Int32) (hX : RX G ad f th cx kx vx px dx) (hR : RLx th cx kx vx px dx K V sz pl dn) (hg : f 83 = eJ G 1 g) {r1 : Int32} {r2 : Int32} {f1 f2 : Nat → va_E} (h1 : HP G f g (fun r f' => OnX f f' ∧ ∃ j, 1 ≤ j ∧ j ≤ 12 ∧ v = nI j ∧ th j = true ∧ r = nI (cx j) ∧ ∃ k3 v3, RX G ad f' th (va_up cx 0 (cx j)) (va_up kx 0 k3) (va_up vx 0 v3) px dx ∧ ∀ z, z < cx j → k3 z = kx j z ∧ v3 z = vx j z) (fun w9 : Int32 => w9.toInt64) ((fun E => E = xIO ∧ iss th v = false) xIO) False r1 f1) (h3 : (fun (f : Nat → va_E) => (fun r f' => OnM f f' ∧ ((∃ j, 1 ≤ j ∧ j ≤ 12 ∧ v = nI j ∧ th j = true ∧ r = nI (sz j) ∧ ∃ K2 V2, MB G ad f' 0 K2 V2 (va_up sz 0 (sz j)) th pl dn ∧ (∀ i, i < sz j → K2 (600 * 0 + i) = K (600 * j + i) ∧ V2 (600 * 0 + i) = V (600 * j + i)) ∧ ∀ x, x < 600 * 0 ∨ 600 * 0 + 600 ≤ x → K2 x = K x ∧ V2 x = V x) ∨ (iss th v = false ∧ MB G ad f' 1 K V sz th pl dn)))) f1 r2 f2) : MT G ad f2 r1 r2.toInt64 := by
  have ht0 := hR.1
  have hn0 := hR.n (show 0 < 21 by decide)
  have hs0 := hR.s (show 0 < 21 by decide)
  have hz0 := hR.zs (show 0 < 21 by decide) ht0
  have hk0 := hR.k (show 0 < 21 by decide) ht0
  have hkv0 : ∀ i, i < cx 0 → K i = kx 0 i ∧ V i = vx 0 i := fun i hi => by have h9 := hR.kv (show 0 < 21 by decide) ht0 i hi; simp only [of, Nat.mul_zero, Nat.zero_add] at h9; exact h9
  obtain ⟨hO, h3⟩ := h3
  rcases h1 with ⟨rfl, w9, fa, hp, e1⟩ | ⟨rfl, hp, e1⟩ | ⟨-, hp, -⟩
  · obtain ⟨-, j, hj1, hj, rfl, ht, rfl, k3, v3, hX2, hkv⟩ := hp
    rcases h3 with ⟨j2, -, hj2, ej, ht2, rfl, K2, V2, hM, hK2, hK3⟩ | ⟨hn, -⟩
    · obtain rfl := v_in hj hj2 ej
      have hzj := hR.zs (show j < 21 by omega) ht
      rw [hzj] at hM hK2
      refine MT.ok hX2 e1 hO hM (hR.put (j := 0) (k2 := k3) (by decide) (up_tt ht0) rfl rfl rfl (hR.n (by omega)) (Srt_congr (fun z hz => (hkv z hz).1.symm) (hR.s (by omega))) (fun z hz => ?_) hK3) (by rw [hzj])
      rw [(hK2 z hz).1, (hK2 z hz).2, (hkv z hz).1, (hkv z hz).2]
      exact hR.kv (show j < 21 by omega) ht z hz
    · exact no_s hj1 hj ht hn
  · obtain ⟨-, hn⟩ := hp
    rcases h3 with ⟨j2, hj1, hj2, rfl, ht2, -⟩ | ⟨-, hM⟩
    · exact no_s hj1 hj2 ht2 hn
    · exact MT.no hX hg e1 hO hM hR (Or.inl rfl)
  · exact hp.elim
theorem m_size {G : Gx} {ad : Nat → Nat} {f : Nat → va_E} {th : Nat → Bool} {cx : Nat → Nat} {kx vx : Nat → Nat → Int32} {px : Nat → Int} {dx : Nat → Bool} {K V : Nat → Int32} {sz : Nat → Nat} {pl : Nat → Int} {dn : Nat → Bool} {g : Nat → Int64} (v : Int32) (hX : RX G ad f th cx kx vx px dx) (hR : RLx th cx kx vx px dx K V sz pl dn) (hg : f 83 = eJ G 1 g) {r1 : Int32} {r2 : Int32} {f1 f2 : Nat → va_E} (h1 : HP G f g (fun r f' => f = f' ∧ ∃ j, j ≤ 12 ∧ v = nI j ∧ th j = true ∧ r = nI (cx j)) (fun w9 : Int32 => w9.toInt64) ((fun E => E = xIO ∧ isv th v = false) xIO) False r1 f1) (h3 : (fun (f : Nat → va_E) => (fun r f' => OnM f f' ∧ ((∃ j, j ≤ 12 ∧ v = nI j ∧ th j = true ∧ r = nI (sz j) ∧ MB G ad f' 0 K V sz th pl dn) ∨ (isv th v = false ∧ MB G ad f' 1 K V sz th pl dn)))) f1 r2 f2) : MT G ad f2 r1 r2.toInt64 := by
  obtain ⟨hO, h3⟩ := h3
  rcases h1 with ⟨rfl, w9, fa, hp, e1⟩ | ⟨rfl, hp, e1⟩ | ⟨-, hp, -⟩
  · obtain ⟨rfl, j, hj, rfl, ht, rfl⟩ := hp
    rcases h3 with ⟨j2, hj2, ej, ht2, rfl, hM⟩ | ⟨hn, -⟩
    · obtain rfl := v_in hj hj2 ej
      have hzj := hR.zs (show j < 21 by omega) ht
      have hkj := hR.k (show j < 21 by omega) ht
      exact MT.ok hX e1 hO hM hR (by rw [hzj])
    · exact no_v hj ht hn
  · obtain ⟨-, hn⟩ := hp
    rcases h3 with ⟨j2, hj2, rfl, ht2, -⟩ | ⟨-, hM⟩
    · exact no_v hj2 ht2 hn
    · exact MT.no hX hg e1 hO hM hR (Or.inl rfl)
  · exact hp.elim
theorem m_get {G : Gx} {ad : Nat → Nat} {f : Nat → va_E} {th : Nat → Bool} {cx : Nat → Nat} {kx vx : Nat → Nat → Int32} {px : Nat → Int} {dx : Nat → Bool} {K V : Nat → Int32} {sz : Nat → Nat} {pl : Nat → Int} {dn : Nat → Bool} {g : Nat → Int64} (v key : Int32) (hX : RX G ad f th cx kx vx px dx) (hR : RLx th cx kx vx px dx K V sz pl dn) (hg : f 83 = eJ G 1 g) {r1 : Int32} {r2 : Int32} {f1 f2 : Nat → va_E} (h1 : HP G f g (fun r f' => f = f' ∧ ∃ j, j ≤ 12 ∧ v = nI j ∧ th j = true ∧ hs (cx j) (kx j) key = true ∧ r = vx j (bel (cx j) (kx j) key)) (fun w9 : Int32 => w9.toInt64) ((fun E => (E = xIO ∧ isv th v = false) ∨ (E = xNS ∧ ∃ j, j ≤ 12 ∧ v = nI j ∧ th j = true ∧ hs (cx j) (kx j) key = false)) xIO) ((fun E => (E = xIO ∧ isv th v = false) ∨ (E = xNS ∧ ∃ j, j ≤ 12 ∧ v = nI j ∧ th j = true ∧ hs (cx j) (kx j) key = false)) xNS) r1 f1) (h3 : (fun (f : Nat → va_E) => (fun r f' => OnM f f' ∧ ((∃ j, j ≤ 12 ∧ v = nI j ∧ th j = true ∧ ((hs (sz j) (of K j) key = true ∧ r = of V j (bel (sz j) (of K j) key) ∧ MB G ad f' 0 K V sz th pl dn) ∨ (hs (sz j) (of K j) key = false ∧ MB G ad f' 2 K V sz th pl dn))) ∨ (isv th v = false ∧ MB G ad f' 1 K V sz th pl dn)))) f1 r2 f2) : MT G ad f2 r1 r2.toInt64 := by
  obtain ⟨hO, h3⟩ := h3
  rcases h1 with ⟨rfl, w9, fa, hp, e1⟩ | ⟨rfl, hp, e1⟩ | ⟨rfl, hp, e1⟩
  · obtain ⟨rfl, j, hj, rfl, ht, hh, rfl⟩ := hp
    rcases h3 with ⟨j2, hj2, ej, ht2, h3⟩ | ⟨hn, -⟩
    · obtain rfl := v_in hj hj2 ej
      have hzj := hR.zs (show j < 21 by omega) ht
      have hkj := hR.k (show j < 21 by omega) ht
      have hkvj := hR.kv (show j < 21 by omega) ht
      have hnj := hR.n (show j < 21 by omega)
      have hsj := hR.s (show j < 21 by omega)
      rcases h3 with ⟨hh2, rfl, hM⟩ | ⟨hh2, hM⟩
      · exact MT.ok hX e1 hO hM hR (by rw [hzj, bel_congr hkj, (hkvj _ (of_decide_eq_true hh).1).2])
      · rw [hzj, hs_congr hkj, hh] at hh2; cases hh2
    · exact no_v hj ht hn
  · rcases hp with ⟨-, hn⟩ | ⟨h, -⟩
    · rcases h3 with ⟨j2, hj2, rfl, ht2, -⟩ | ⟨-, hM⟩
      · exact no_v hj2 ht2 hn
      · exact MT.no hX hg e1 hO hM hR (Or.inl rfl)
    · exact absurd h (by decide)
  · rcases hp with ⟨h, -⟩ | ⟨-, j, hj, rfl, ht, hh⟩
    · exact absurd h (by decide)
    · rcases h3 with ⟨j2, hj2, ej, ht2, h3⟩ | ⟨hn, -⟩
      · obtain rfl := v_in hj hj2 ej
        have hzj := hR.zs (show j < 21 by omega) ht
        have hkj := hR.k (show j < 21 by omega) ht
        have hkvj := hR.kv (show j < 21 by omega) ht
        have hnj := hR.n (show j < 21 by omega)
        have hsj := hR.s (show j < 21 by omega)
        rcases h3 with ⟨hh2, rfl, hM⟩ | ⟨hh2, hM⟩
        · rw [hzj, hs_congr hkj, hh] at hh2; cases hh2
        · exact MT.no hX hg e1 hO hM hR (Or.inr rfl)
      · exact no_v hj ht hn
theorem m_rank {G : Gx} {ad : Nat → Nat} {f : Nat → va_E} {th : Nat → Bool} {cx : Nat → Nat} {kx vx : Nat → Nat → Int32} {px : Nat → Int} {dx : Nat → Bool} {K V : Nat → Int32} {sz : Nat → Nat} {pl : Nat → Int} {dn : Nat → Bool} {g : Nat → Int64} (v key : Int32) (hX : RX G ad f th cx kx vx px dx) (hR : RLx th cx kx vx px dx K V sz pl dn) (hg : f 83 = eJ G 1 g) {r1 : Int32} {r2 : Int32} {f1 f2 : Nat → va_E} (h1 : HP G f g (fun r f' => f = f' ∧ ∃ j, j ≤ 12 ∧ v = nI j ∧ th j = true ∧ r = nI (bel (cx j) (kx j) key)) (fun w9 : Int32 => w9.toInt64) ((fun E => E = xIO ∧ isv th v = false) xIO) False r1 f1) (h3 : (fun (f : Nat → va_E) => (fun r f' => OnM f f' ∧ ((∃ j, j ≤ 12 ∧ v = nI j ∧ th j = true ∧ r = nI (bel (sz j) (of K j) key) ∧ MB G ad f' 0 K V sz th pl dn) ∨ (isv th v = false ∧ MB G ad f' 1 K V sz th pl dn)))) f1 r2 f2) : MT G ad f2 r1 r2.toInt64 := by
  obtain ⟨hO, h3⟩ := h3
  rcases h1 with ⟨rfl, w9, fa, hp, e1⟩ | ⟨rfl, hp, e1⟩ | ⟨-, hp, -⟩
  · obtain ⟨rfl, j, hj, rfl, ht, rfl⟩ := hp
    rcases h3 with ⟨j2, hj2, ej, ht2, rfl, hM⟩ | ⟨hn, -⟩
    · obtain rfl := v_in hj hj2 ej
      have hzj := hR.zs (show j < 21 by omega) ht
      have hkj := hR.k (show j < 21 by omega) ht
      exact MT.ok hX e1 hO hM hR (by rw [hzj, bel_congr hkj])
    · exact no_v hj ht hn
  · obtain ⟨-, hn⟩ := hp
    rcases h3 with ⟨j2, hj2, rfl, ht2, -⟩ | ⟨-, hM⟩
    · exact no_v hj2 ht2 hn
    · exact MT.no hX hg e1 hO hM hR (Or.inl rfl)
  · exact hp.elim
theorem m_select {G : Gx} {ad : Nat → Nat} {f : Nat → va_E} {th : Nat → Bool} {cx : Nat → Nat} {kx vx : Nat → Nat → Int32} {px : Nat → Int} {dx : Nat → Bool} {K V : Nat → Int32} {sz : Nat → Nat} {pl : Nat → Int} {dn : Nat → Bool} {g : Nat → Int64} (v rk : Int32) (hX : RX G ad f th cx kx vx px dx) (hR : RLx th cx kx vx px dx K V sz pl dn) (hg : f 83 = eJ G 1 g) {r1 : Int32} {r2 : Int32} {f1 f2 : Nat → va_E} (h1 : HP G f g (fun r f' => f = f' ∧ ∃ j, j ≤ 12 ∧ v = nI j ∧ th j = true ∧ ∃ i, i < cx j ∧ rk = nI i ∧ r = kx j i) (fun w9 : Int32 => w9.toInt64) ((fun E => (E = xIO ∧ isv th v = false) ∨ (E = xNS ∧ ∃ j, j ≤ 12 ∧ v = nI j ∧ th j = true ∧ wi (cx j) rk = false)) xIO) ((fun E => (E = xIO ∧ isv th v = false) ∨ (E = xNS ∧ ∃ j, j ≤ 12 ∧ v = nI j ∧ th j = true ∧ wi (cx j) rk = false)) xNS) r1 f1) (h3 : (fun (f : Nat → va_E) => (fun r f' => OnM f f' ∧ ((∃ j, j ≤ 12 ∧ v = nI j ∧ th j = true ∧ ((∃ i, i < sz j ∧ rk = nI i ∧ r = of K j i ∧ MB G ad f' 0 K V sz th pl dn) ∨ (wi (sz j) rk = false ∧ MB G ad f' 2 K V sz th pl dn))) ∨ (isv th v = false ∧ MB G ad f' 1 K V sz th pl dn)))) f1 r2 f2) : MT G ad f2 r1 r2.toInt64 := by
  obtain ⟨hO, h3⟩ := h3
  rcases h1 with ⟨rfl, w9, fa, hp, e1⟩ | ⟨rfl, hp, e1⟩ | ⟨rfl, hp, e1⟩
  · obtain ⟨rfl, j, hj, rfl, ht, i, hi, rfl, rfl⟩ := hp
    rcases h3 with ⟨j2, hj2, ej, ht2, h3⟩ | ⟨hn, -⟩
    · obtain rfl := v_in hj hj2 ej
      have hzj := hR.zs (show j < 21 by omega) ht
      have hkj := hR.k (show j < 21 by omega) ht
      have hkvj := hR.kv (show j < 21 by omega) ht
      have hnj := hR.n (show j < 21 by omega)
      have hsj := hR.s (show j < 21 by omega)
      rcases h3 with ⟨i2, hi2, ei, rfl, hM⟩ | ⟨hh2, hM⟩
      · obtain rfl : i = i2 := (nI_eq (by omega) (by omega)).mp ei; exact MT.ok hX e1 hO hM hR (by rw [(hkvj i hi).1])
      · rw [hzj, wi_nI (by omega)] at hh2; have := of_decide_eq_false hh2; omega
    · exact no_v hj ht hn
  · rcases hp with ⟨-, hn⟩ | ⟨h, -⟩
    · rcases h3 with ⟨j2, hj2, rfl, ht2, -⟩ | ⟨-, hM⟩
      · exact no_v hj2 ht2 hn
      · exact MT.no hX hg e1 hO hM hR (Or.inl rfl)
    · exact absurd h (by decide)
  · rcases hp with ⟨h, -⟩ | ⟨-, j, hj, rfl, ht, hh⟩
    · exact absurd h (by decide)
    · rcases h3 with ⟨j2, hj2, ej, ht2, h3⟩ | ⟨hn, -⟩
      · obtain rfl := v_in hj hj2 ej
        have hzj := hR.zs (show j < 21 by omega) ht
        have hkj := hR.k (show j < 21 by omega) ht
        have hkvj := hR.kv (show j < 21 by omega) ht
        have hnj := hR.n (show j < 21 by omega)
        have hsj := hR.s (show j < 21 by omega)
        rcases h3 with ⟨i2, hi2, ei, rfl, hM⟩ | ⟨hh2, hM⟩
        · subst ei; rw [wi_nI (by omega)] at hh; have := of_decide_eq_false hh; omega
        · exact MT.no hX hg e1 hO hM hR (Or.inr rfl)
      · exact no_v hj ht hn
theorem m_near {G : Gx} {ad : Nat → Nat} {f : Nat → va_E} {th : Nat → Bool} {cx : Nat → Nat} {kx vx : Nat → Nat → Int32} {px : Nat → Int} {dx : Nat → Bool} {K V : Nat → Int32} {sz : Nat → Nat} {pl : Nat → Int} {dn : Nat → Bool} {g : Nat → Int64} (v key : Int32) (ab : Bool) (hX : RX G ad f th cx kx vx px dx) (hR : RLx th cx kx vx px dx K V sz pl dn) (hg : f 83 = eJ G 1 g) {r1 : Int32} {r2 : Int32} {f1 f2 : Nat → va_E} (h1 : HP G f g (fun r f' => f = f' ∧ ∃ j, j ≤ 12 ∧ v = nI j ∧ th j = true ∧ ∃ i, i < cx j ∧ nea (cx j) (kx j) key ab = nI i ∧ r = kx j i) (fun w9 : Int32 => w9.toInt64) ((fun E => (E = xIO ∧ isv th v = false) ∨ (E = xNS ∧ ∃ j, j ≤ 12 ∧ v = nI j ∧ th j = true ∧ wi (cx j) (nea (cx j) (kx j) key ab) = false)) xIO) ((fun E => (E = xIO ∧ isv th v = false) ∨ (E = xNS ∧ ∃ j, j ≤ 12 ∧ v = nI j ∧ th j = true ∧ wi (cx j) (nea (cx j) (kx j) key ab) = false)) xNS) r1 f1) (h3 : (fun (f : Nat → va_E) => (fun r f' => OnM f f' ∧ ((∃ j, j ≤ 12 ∧ v = nI j ∧ th j = true ∧ ((∃ i, i < sz j ∧ nea (sz j) (of K j) key ab = nI i ∧ r = of K j i ∧ MB G ad f' 0 K V sz th pl dn) ∨ (wi (sz j) (nea (sz j) (of K j) key ab) = false ∧ MB G ad f' 2 K V sz th pl dn))) ∨ (isv th v = false ∧ MB G ad f' 1 K V sz th pl dn)))) f1 r2 f2) : MT G ad f2 r1 r2.toInt64 := by
  obtain ⟨hO, h3⟩ := h3
  rcases h1 with ⟨rfl, w9, fa, hp, e1⟩ | ⟨rfl, hp, e1⟩ | ⟨rfl, hp, e1⟩
  · obtain ⟨rfl, j, hj, rfl, ht, i, hi, en, rfl⟩ := hp
    rcases h3 with ⟨j2, hj2, ej, ht2, h3⟩ | ⟨hn, -⟩
    · obtain rfl := v_in hj hj2 ej
      have hzj := hR.zs (show j < 21 by omega) ht
      have hkj := hR.k (show j < 21 by omega) ht
      have hkvj := hR.kv (show j < 21 by omega) ht
      have hnj := hR.n (show j < 21 by omega)
      have hsj := hR.s (show j < 21 by omega)
      rcases h3 with ⟨i2, hi2, ei, rfl, hM⟩ | ⟨hh2, hM⟩
      · obtain rfl : i = i2 := by (rw [hzj, nea_congr hnj hkj, en] at ei; exact (nI_eq (by omega) (by omega)).mp ei)
        exact MT.ok hX e1 hO hM hR (by rw [(hkvj i hi).1])
      · rw [hzj, nea_congr hnj hkj, en, wi_nI (by omega)] at hh2; have := of_decide_eq_false hh2; omega
    · exact no_v hj ht hn
  · rcases hp with ⟨-, hn⟩ | ⟨h, -⟩
    · rcases h3 with ⟨j2, hj2, rfl, ht2, -⟩ | ⟨-, hM⟩
      · exact no_v hj2 ht2 hn
      · exact MT.no hX hg e1 hO hM hR (Or.inl rfl)
    · exact absurd h (by decide)
  · rcases hp with ⟨h, -⟩ | ⟨-, j, hj, rfl, ht, hh⟩
    · exact absurd h (by decide)
    · rcases h3 with ⟨j2, hj2, ej, ht2, h3⟩ | ⟨hn, -⟩
      · obtain rfl := v_in hj hj2 ej
        have hzj := hR.zs (show j < 21 by omega) ht
        have hkj := hR.k (show j < 21 by omega) ht
        have hkvj := hR.kv (show j < 21 by omega) ht
        have hnj := hR.n (show j < 21 by omega)
        have hsj := hR.s (show j < 21 by omega)
        rcases h3 with ⟨i2, hi2, ei, rfl, hM⟩ | ⟨hh2, hM⟩
        · rw [hzj, nea_congr hnj hkj] at ei; rw [ei, wi_nI (by omega)] at hh; have := of_decide_eq_false hh; omega
        · exact MT.no hX hg e1 hO hM hR (Or.inr rfl)
      · exact no_v hj ht hn
theorem m_sum {G : Gx} {ad : Nat → Nat} {f : Nat → va_E} {th : Nat → Bool} {cx : Nat → Nat} {kx vx : Nat → Nat → Int32} {px : Nat → Int} {dx : Nat → Bool} {K V : Nat → Int32} {sz : Nat → Nat} {pl : Nat → Int} {dn : Nat → Bool} {g : Nat → Int64} (v lo hi : Int32) (hX : RX G ad f th cx kx vx px dx) (hR : RLx th cx kx vx px dx K V sz pl dn) (hg : f 83 = eJ G 1 g) {r1 : Int32} {r2 : Int64} {f1 f2 : Nat → va_E} (h1 : HP G f g (fun r f' => f = f' ∧ ∃ j, j ≤ 12 ∧ v = nI j ∧ th j = true ∧ r = svF (vx j) (bel (cx j) (kx j) lo) ((upt (cx j) (kx j) hi) - (bel (cx j) (kx j) lo))) (fun w9 : Int64 => w9) ((fun E => E = xIO ∧ isv th v = false) xIO) False r1 f1) (h3 : (fun (f : Nat → va_E) => (fun r f' => OnM f f' ∧ ((∃ j, j ≤ 12 ∧ v = nI j ∧ th j = true ∧ r = smF (of K j) (of V j) lo hi (sz j) ∧ MB G ad f' 0 K V sz th pl dn) ∨ (isv th v = false ∧ MB G ad f' 1 K V sz th pl dn)))) f1 r2 f2) : MT G ad f2 r1 r2 := by
  obtain ⟨hO, h3⟩ := h3
  rcases h1 with ⟨rfl, w9, fa, hp, e1⟩ | ⟨rfl, hp, e1⟩ | ⟨-, hp, -⟩
  · obtain ⟨rfl, j, hj, rfl, ht, rfl⟩ := hp
    rcases h3 with ⟨j2, hj2, ej, ht2, rfl, hM⟩ | ⟨hn, -⟩
    · obtain rfl := v_in hj hj2 ej
      have hzj := hR.zs (show j < 21 by omega) ht
      have hkj := hR.k (show j < 21 by omega) ht
      exact MT.ok hX e1 hO hM hR (by rw [hzj, smF_congr (hR.kv (show j < 21 by omega) ht), sum_eq (hR.n (by omega)) (hR.s (by omega))])
    · exact no_v hj ht hn
  · obtain ⟨-, hn⟩ := hp
    rcases h3 with ⟨j2, hj2, rfl, ht2, -⟩ | ⟨-, hM⟩
    · exact no_v hj2 ht2 hn
    · exact MT.no hX hg e1 hO hM hR (Or.inl rfl)
  · exact hp.elim
theorem m_greatest {G : Gx} {ad : Nat → Nat} {f : Nat → va_E} {th : Nat → Bool} {cx : Nat → Nat} {kx vx : Nat → Nat → Int32} {px : Nat → Int} {dx : Nat → Bool} {K V : Nat → Int32} {sz : Nat → Nat} {pl : Nat → Int} {dn : Nat → Bool} {g : Nat → Int64} (v lo hi : Int32) (hX : RX G ad f th cx kx vx px dx) (hR : RLx th cx kx vx px dx K V sz pl dn) (hg : f 83 = eJ G 1 g) {r1 : Int32} {r2 : Int32} {f1 f2 : Nat → va_E} (h1 : HP G f g (fun r f' => f = f' ∧ ∃ j, j ≤ 12 ∧ v = nI j ∧ th j = true ∧ (bel (cx j) (kx j) lo) < (upt (cx j) (kx j) hi) ∧ r = gvF (vx j) (bel (cx j) (kx j) lo) ((upt (cx j) (kx j) hi) - (bel (cx j) (kx j) lo) - 1)) (fun w9 : Int32 => w9.toInt64) ((fun E => (E = xIO ∧ isv th v = false) ∨ (E = xNS ∧ ∃ j, j ≤ 12 ∧ v = nI j ∧ th j = true ∧ (upt (cx j) (kx j) hi) ≤ (bel (cx j) (kx j) lo))) xIO) ((fun E => (E = xIO ∧ isv th v = false) ∨ (E = xNS ∧ ∃ j, j ≤ 12 ∧ v = nI j ∧ th j = true ∧ (upt (cx j) (kx j) hi) ≤ (bel (cx j) (kx j) lo))) xNS) r1 f1) (h3 : (fun (f : Nat → va_E) => (fun r f' => OnM f f' ∧ ((∃ j, j ≤ 12 ∧ v = nI j ∧ th j = true ∧ ((man (sz j) (of K j) lo hi ≠ 0 ∧ r = grF (of K j) (of V j) lo hi (sz j) ∧ MB G ad f' 0 K V sz th pl dn) ∨ (man (sz j) (of K j) lo hi = 0 ∧ MB G ad f' 2 K V sz th pl dn))) ∨ (isv th v = false ∧ MB G ad f' 1 K V sz th pl dn)))) f1 r2 f2) : MT G ad f2 r1 r2.toInt64 := by
  obtain ⟨hO, h3⟩ := h3
  rcases h1 with ⟨rfl, w9, fa, hp, e1⟩ | ⟨rfl, hp, e1⟩ | ⟨rfl, hp, e1⟩
  · obtain ⟨rfl, j, hj, rfl, ht, hlt, rfl⟩ := hp
    rcases h3 with ⟨j2, hj2, ej, ht2, h3⟩ | ⟨hn, -⟩
    · obtain rfl := v_in hj hj2 ej
      have hzj := hR.zs (show j < 21 by omega) ht
      have hkj := hR.k (show j < 21 by omega) ht
      have hkvj := hR.kv (show j < 21 by omega) ht
      have hnj := hR.n (show j < 21 by omega)
      have hsj := hR.s (show j < 21 by omega)
      rcases h3 with ⟨hm, rfl, hM⟩ | ⟨hm, hM⟩
      · exact MT.ok hX e1 hO hM hR (by rw [hzj, grF_congr hkvj, gre_eq hnj hsj hlt])
      · rw [hzj, man_sub hnj, upt_congr hnj hkj, bel_congr hkj] at hm; omega
    · exact no_v hj ht hn
  · rcases hp with ⟨-, hn⟩ | ⟨h, -⟩
    · rcases h3 with ⟨j2, hj2, rfl, ht2, -⟩ | ⟨-, hM⟩
      · exact no_v hj2 ht2 hn
      · exact MT.no hX hg e1 hO hM hR (Or.inl rfl)
    · exact absurd h (by decide)
  · rcases hp with ⟨h, -⟩ | ⟨-, j, hj, rfl, ht, hle⟩
    · exact absurd h (by decide)
    · rcases h3 with ⟨j2, hj2, ej, ht2, h3⟩ | ⟨hn, -⟩
      · obtain rfl := v_in hj hj2 ej
        have hzj := hR.zs (show j < 21 by omega) ht
        have hkj := hR.k (show j < 21 by omega) ht
        have hkvj := hR.kv (show j < 21 by omega) ht
        have hnj := hR.n (show j < 21 by omega)
        have hsj := hR.s (show j < 21 by omega)
        rcases h3 with ⟨hm, rfl, hM⟩ | ⟨hm, hM⟩
        · rw [hzj, man_sub hnj, upt_congr hnj hkj, bel_congr hkj] at hm; omega
        · exact MT.no hX hg e1 hO hM hR (Or.inr rfl)
      · exact no_v hj ht hn
theorem m_differs {G : Gx} {ad : Nat → Nat} {f : Nat → va_E} {th : Nat → Bool} {cx : Nat → Nat} {kx vx : Nat → Nat → Int32} {px : Nat → Int} {dx : Nat → Bool} {K V : Nat → Int32} {sz : Nat → Nat} {pl : Nat → Int} {dn : Nat → Bool} {g : Nat → Int64} (v o : Int32) (hX : RX G ad f th cx kx vx px dx) (hR : RLx th cx kx vx px dx K V sz pl dn) (hg : f 83 = eJ G 1 g) {r1 : Int32} {r2 : Int32} {f1 f2 : Nat → va_E} (h1 : HP G f g (fun r f' => f = f' ∧ ∃ j d, j ≤ 12 ∧ d ≤ 12 ∧ v = nI j ∧ o = nI d ∧ th j = true ∧ th d = true ∧ r = nI (cx j + cx d) - nI (cnt (cx j) (sh (cx d) (kx d) (vx d) false (kx j) (vx j))) - nI (cnt (cx j) (sh (cx d) (kx d) (vx d) true (kx j) (vx j)))) (fun w9 : Int32 => w9.toInt64) ((fun E => (E = xIO ∧ (isv th v = false ∨ isv th o = false))) xIO) False r1 f1) (h3 : (fun (f : Nat → va_E) => (fun r f' => OnM f f' ∧ ((∃ j d, j ≤ 12 ∧ d ≤ 12 ∧ v = nI j ∧ o = nI d ∧ th j = true ∧ th d = true ∧ r = nI (cnt (sz j) (fun z => !sh (sz d) (of K d) (of V d) true (of K j) (of V j) z) + cnt (sz d) (fun z => !hs (sz j) (of K j) (of K d z))) ∧ MB G ad f' 0 K V sz th pl dn) ∨ ((isv th v = false ∨ isv th o = false) ∧ MB G ad f' 1 K V sz th pl dn)))) f1 r2 f2) : MT G ad f2 r1 r2.toInt64 := by
  obtain ⟨hO, h3⟩ := h3
  rcases h1 with ⟨rfl, w9, fa, hp, e1⟩ | ⟨rfl, hp, e1⟩ | ⟨-, hp, -⟩
  · obtain ⟨rfl, j, d, hj, hd, rfl, rfl, ht, htd, rfl⟩ := hp
    rcases h3 with ⟨j2, d2, hj2, hd2, ej, ed, -, -, rfl, hM⟩ | ⟨hn | hn, -⟩
    · obtain rfl := v_in hj hj2 ej
      obtain rfl := v_in hd hd2 ed
      have hzj := hR.zs (show j < 21 by omega) ht
      have hzd := hR.zs (show d < 21 by omega) htd
      have hkvj := hR.kv (show j < 21 by omega) ht
      have hkvd := hR.kv (show d < 21 by omega) htd
      have hsj := hR.s (show j < 21 by omega)
      have hsd := hR.s (show d < 21 by omega)
      refine MT.ok hX e1 hO hM hR ?_
      show (nI (cx j + cx d) - _ - _).toInt64 = _
      rw [hzj, hzd, dif_eq hsj hsd]
      have e5 : cnt (cx j) (fun z => !sh (cx d) (of K d) (of V d) true (of K j) (of V j) z) = cnt (cx j) (fun z => !sh (cx d) (kx d) (vx d) true (kx j) (vx j) z) := cnt_congr (fun i hi => by show (!sh (cx d) (of K d) (of V d) true (of K j) (of V j) i) = (!sh (cx d) (kx d) (vx d) true (kx j) (vx j) i); rw [sh_congr hkvj hkvd hi])
      have e6 : cnt (cx d) (fun z => !hs (cx j) (of K j) (of K d z)) = cnt (cx d) (fun z => !hs (cx j) (kx j) (kx d z)) := cnt_congr (fun i hi => by show (!hs (cx j) (of K j) (of K d i)) = (!hs (cx j) (kx j) (kx d i)); rw [(hkvd i hi).1, hs_congr (fun i hi => (hkvj i hi).1)])
      rw [e5, e6]
    · exact no_v hj ht hn
    · exact no_v hd htd hn
  · obtain ⟨-, hn⟩ := hp
    rcases h3 with ⟨j2, d2, hj2, hd2, rfl, rfl, ht, htd, -⟩ | ⟨-, hM⟩
    · rcases hn with hn | hn
      · exact no_v hj2 ht hn
      · exact no_v hd2 htd hn
    · exact MT.no hX hg e1 hO hM hR (Or.inl rfl)
  · exact hp.elim
theorem m_firstDifference {G : Gx} {ad : Nat → Nat} {f : Nat → va_E} {th : Nat → Bool} {cx : Nat → Nat} {kx vx : Nat → Nat → Int32} {px : Nat → Int} {dx : Nat → Bool} {K V : Nat → Int32} {sz : Nat → Nat} {pl : Nat → Int} {dn : Nat → Bool} {g : Nat → Int64} (v o : Int32) (hX : RX G ad f th cx kx vx px dx) (hR : RLx th cx kx vx px dx K V sz pl dn) (hg : f 83 = eJ G 1 g) {r1 : Int32} {r2 : Int32} {f1 f2 : Nat → va_E} (h1 : HP G f g (fun r f' => f = f' ∧ ∃ j d, j ≤ 12 ∧ d ≤ 12 ∧ v = nI j ∧ o = nI d ∧ th j = true ∧ th d = true ∧ ∃ i, i ≤ cx j ∧ i ≤ cx d ∧ (∀ z, z < i → kx j z = kx d z ∧ vx j z = vx d z) ∧ ((i = cx j ∧ i < cx d ∧ r = kx d i) ∨ (i < cx j ∧ i = cx d ∧ r = kx j i) ∨ (i < cx j ∧ i < cx d ∧ ¬ (kx j i = kx d i ∧ vx j i = vx d i) ∧ r = (if kx d i < kx j i then kx d i else kx j i)))) (fun w9 : Int32 => w9.toInt64) ((fun E => (E = xIO ∧ (isv th v = false ∨ isv th o = false)) ∨ (E = xNS ∧ ∃ j d, j ≤ 12 ∧ d ≤ 12 ∧ v = nI j ∧ o = nI d ∧ th j = true ∧ th d = true ∧ cx j = cx d ∧ ∀ z, z < cx j → kx j z = kx d z ∧ vx j z = vx d z)) xIO) ((fun E => (E = xIO ∧ (isv th v = false ∨ isv th o = false)) ∨ (E = xNS ∧ ∃ j d, j ≤ 12 ∧ d ≤ 12 ∧ v = nI j ∧ o = nI d ∧ th j = true ∧ th d = true ∧ cx j = cx d ∧ ∀ z, z < cx j → kx j z = kx d z ∧ vx j z = vx d z)) xNS) r1 f1) (h3 : (fun (f : Nat → va_E) => (fun r f' => OnM f f' ∧ ((∃ j d, j ≤ 12 ∧ d ≤ 12 ∧ v = nI j ∧ o = nI d ∧ th j = true ∧ th d = true ∧ ∃ a b, a ≤ sz j ∧ (∀ z, z < a → sh (sz d) (of K d) (of V d) true (of K j) (of V j) z = true) ∧ (a < sz j → sh (sz d) (of K d) (of V d) true (of K j) (of V j) a = false) ∧ b ≤ sz d ∧ (∀ z, z < b → sh (sz j) (of K j) (of V j) true (of K d) (of V d) z = true) ∧ (b < sz d → sh (sz j) (of K j) (of V j) true (of K d) (of V d) b = false) ∧ ((a = sz j ∧ b = sz d ∧ MB G ad f' 2 K V sz th pl dn) ∨ (a < sz j ∧ b < sz d ∧ r = (if of K j a < of K d b then of K j a else of K d b) ∧ MB G ad f' 0 K V sz th pl dn) ∨ (a < sz j ∧ b = sz d ∧ r = of K j a ∧ MB G ad f' 0 K V sz th pl dn) ∨ (a = sz j ∧ b < sz d ∧ r = of K d b ∧ MB G ad f' 0 K V sz th pl dn))) ∨ ((isv th v = false ∨ isv th o = false) ∧ MB G ad f' 1 K V sz th pl dn)))) f1 r2 f2) : MT G ad f2 r1 r2.toInt64 := by
  obtain ⟨hO, h3⟩ := h3
  rcases h1 with ⟨rfl, w9, fa, hp, e1⟩ | ⟨rfl, hp, e1⟩ | ⟨rfl, hp, e1⟩
  · obtain ⟨rfl, j, d, hj, hd, rfl, rfl, ht, htd, i, hi1, hi2, hi3, hc⟩ := hp
    rcases h3 with ⟨j2, d2, hj2, hd2, ej, ed, -, -, a, b, ha1, ha2, ha3, hb1, hb2, hb3, hab⟩ | ⟨hn | hn, -⟩
    · obtain rfl := v_in hj hj2 ej
      obtain rfl := v_in hd hd2 ed
      have hzj := hR.zs (show j < 21 by omega) ht
      have hzd := hR.zs (show d < 21 by omega) htd
      have hkvj := hR.kv (show j < 21 by omega) ht
      have hkvd := hR.kv (show d < 21 by omega) htd
      have hsj := hR.s (show j < 21 by omega)
      have hsd := hR.s (show d < 21 by omega)
      rw [hzj] at ha1 ha3 hab
      rw [hzd] at hb1 hb3 hab
      rw [hzd] at ha2 ha3
      rw [hzj] at hb2 hb3
      have ha2 : ∀ z, z < a → sh (cx d) (kx d) (vx d) true (kx j) (vx j) z = true := fun z hz => by rw [← sh_congr hkvj hkvd (by omega)]; exact ha2 z hz
      have ha3 : a < cx j → sh (cx d) (kx d) (vx d) true (kx j) (vx j) a = false := fun hz => by rw [← sh_congr hkvj hkvd hz]; exact ha3 hz
      have hb2 : ∀ z, z < b → sh (cx j) (kx j) (vx j) true (kx d) (vx d) z = true := fun z hz => by rw [← sh_congr hkvd hkvj (by omega)]; exact hb2 z hz
      have hb3 : b < cx d → sh (cx j) (kx j) (vx j) true (kx d) (vx d) b = false := fun hz => by rw [← sh_congr hkvd hkvj hz]; exact hb3 hz
      have hia : i ≤ a := Nat.le_of_not_lt fun q => by
        have h9 := ha3 (by omega)
        rw [sh_same (n := cx j) hsd (by omega) (hi3 a q)] at h9; cases h9
      have hib : i ≤ b := Nat.le_of_not_lt fun q => by
        have h9 := hb3 (by omega)
        rw [sh_same (n := cx d) hsj (by omega) ⟨(hi3 b q).1.symm, (hi3 b q).2.symm⟩] at h9; cases h9
      have hka : ∀ z, z < i → kx j z = kx d z := fun z hz => (hi3 z hz).1
      have hkb : ∀ z, z < i → kx d z = kx j z := fun z hz => (hi3 z hz).1.symm
      have eka : a < cx j → of K j a = kx j a := fun q => (hkvj a q).1
      have ekb : b < cx d → of K d b = kx d b := fun q => (hkvd b q).1
      have hia2 : i < cx j → sh (cx d) (kx d) (vx d) true (kx j) (vx j) i = false → a = i := fun _ q => by
        refine Nat.le_antisymm (Nat.le_of_not_lt fun q2 => ?_) hia
        rw [ha2 i q2] at q; cases q
      have hib2 : i < cx d → sh (cx j) (kx j) (vx j) true (kx d) (vx d) i = false → b = i := fun _ q => by
        refine Nat.le_antisymm (Nat.le_of_not_lt fun q2 => ?_) hib
        rw [hb2 i q2] at q; cases q
      rcases hc with ⟨c1, c2, rfl⟩ | ⟨c1, c2, rfl⟩ | ⟨c1, c2, c3, rfl⟩
      · have eb : b = i := hib2 c2 (sh_no hsj (fd_no hsd hsj c2 hkb (fun q => by omega)))
        rcases hab with ⟨q1, q2, -⟩ | ⟨q1, -⟩ | ⟨q1, -⟩ | ⟨q1, q2, rfl, hM⟩
        · omega
        · omega
        · omega
        · exact MT.ok hX e1 hO hM hR (by rw [ekb q2, eb])
      · have ea : a = i := hia2 c1 (sh_no hsd (fd_no hsj hsd c1 hka (fun q => by omega)))
        rcases hab with ⟨q1, q2, -⟩ | ⟨q1, q2, -⟩ | ⟨q1, q2, rfl, hM⟩ | ⟨q1, q2, -⟩
        · omega
        · omega
        · exact MT.ok hX e1 hO hM hR (by rw [eka q1, ea])
        · omega
      · by_cases c4 : kx d i < kx j i
        · have eb : b = i := hib2 c2 (sh_no hsj (fd_no hsd hsj c2 hkb (fun _ => c4)))
          rcases hab with ⟨q1, q2, -⟩ | ⟨q1, q2, rfl, hM⟩ | ⟨q1, q2, -⟩ | ⟨q1, q2, rfl, hM⟩
          · omega
          · refine MT.ok hX e1 hO hM hR ?_
            have h9 := srt_le hsj hia q1
            rw [eka q1, ekb q2, if_pos c4, eb, if_neg (i32_nlt (by rw [i32_lt] at c4; rw [i32_le] at h9 ⊢; omega))]
          · omega
          · exact MT.ok hX e1 hO hM hR (by rw [ekb q2, eb, if_pos c4])
        · by_cases c5 : kx j i = kx d i
          · have c6 : ¬ vx j i = vx d i := fun q => c3 ⟨c5, q⟩
            have ea : a = i := hia2 c1 (sh_oth hsd c2 c5 c6)
            have eb : b = i := hib2 c2 (sh_oth hsj c1 c5.symm (fun q => c6 q.symm))
            rcases hab with ⟨q1, q2, -⟩ | ⟨q1, q2, rfl, hM⟩ | ⟨q1, q2, -⟩ | ⟨q1, q2, -⟩
            · omega
            · refine MT.ok hX e1 hO hM hR ?_
              rw [eka q1, ekb q2, ea, eb, if_neg c4, c5]; simp
            · omega
            · omega
          · have c6 : kx j i < kx d i := i32_le_ne (i32_of_nlt c4) c5
            have ea : a = i := hia2 c1 (sh_no hsd (fd_no hsj hsd c1 hka (fun _ => c6)))
            rcases hab with ⟨q1, q2, -⟩ | ⟨q1, q2, rfl, hM⟩ | ⟨q1, q2, rfl, hM⟩ | ⟨q1, q2, -⟩
            · omega
            · refine MT.ok hX e1 hO hM hR ?_
              have h9 := srt_le hsd hib q2
              rw [eka q1, ekb q2, if_neg c4, ea, if_pos (i32_lt_le c6 h9)]
            · exact MT.ok hX e1 hO hM hR (by rw [eka q1, ea, if_neg c4])
            · omega
    · exact no_v hj ht hn
    · exact no_v hd htd hn
  · rcases hp with ⟨-, hn⟩ | ⟨h, -⟩
    · rcases h3 with ⟨j2, d2, hj2, hd2, rfl, rfl, ht, htd, -⟩ | ⟨-, hM⟩
      · rcases hn with hn | hn
        · exact no_v hj2 ht hn
        · exact no_v hd2 htd hn
      · exact MT.no hX hg e1 hO hM hR (Or.inl rfl)
    · exact absurd h (by decide)
  · rcases hp with ⟨h, -⟩ | ⟨-, j, d, hj, hd, rfl, rfl, ht, htd, hcc, hi3⟩
    · exact absurd h (by decide)
    · rcases h3 with ⟨j2, d2, hj2, hd2, ej, ed, -, -, a, b, ha1, ha2, ha3, hb1, hb2, hb3, hab⟩ | ⟨hn | hn, -⟩
      · obtain rfl := v_in hj hj2 ej
        obtain rfl := v_in hd hd2 ed
        have hzj := hR.zs (show j < 21 by omega) ht
        have hzd := hR.zs (show d < 21 by omega) htd
        have hkvj := hR.kv (show j < 21 by omega) ht
        have hkvd := hR.kv (show d < 21 by omega) htd
        have hsj := hR.s (show j < 21 by omega)
        have hsd := hR.s (show d < 21 by omega)
        rw [hzj] at ha1 ha3 hab
        rw [hzd] at hb1 hb3 hab
        rw [hzd] at ha2 ha3
        rw [hzj] at hb2 hb3
        have ha2 : ∀ z, z < a → sh (cx d) (kx d) (vx d) true (kx j) (vx j) z = true := fun z hz => by rw [← sh_congr hkvj hkvd (by omega)]; exact ha2 z hz
        have ha3 : a < cx j → sh (cx d) (kx d) (vx d) true (kx j) (vx j) a = false := fun hz => by rw [← sh_congr hkvj hkvd hz]; exact ha3 hz
        have hb2 : ∀ z, z < b → sh (cx j) (kx j) (vx j) true (kx d) (vx d) z = true := fun z hz => by rw [← sh_congr hkvd hkvj (by omega)]; exact hb2 z hz
        have hb3 : b < cx d → sh (cx j) (kx j) (vx j) true (kx d) (vx d) b = false := fun hz => by rw [← sh_congr hkvd hkvj hz]; exact hb3 hz
        have hia : a = cx j := Nat.le_antisymm ha1 (Nat.le_of_not_lt fun q => by
          have h9 := ha3 q
          rw [sh_same (n := cx j) hsd (by omega) (hi3 a q)] at h9; cases h9)
        have hib : b = cx d := Nat.le_antisymm hb1 (Nat.le_of_not_lt fun q => by
          have h9 := hb3 q
          rw [sh_same (n := cx d) hsj (by omega) ⟨(hi3 b (by omega)).1.symm, (hi3 b (by omega)).2.symm⟩] at h9; cases h9)
        rcases hab with ⟨-, -, hM⟩ | ⟨q1, -⟩ | ⟨q1, -⟩ | ⟨-, q1, -⟩
        · exact MT.no hX hg e1 hO hM hR (Or.inr rfl)
        · omega
        · omega
        · omega
      · exact no_v hj ht hn
      · exact no_v hd htd hn
theorem m_open {G : Gx} {ad : Nat → Nat} {f : Nat → va_E} {th : Nat → Bool} {cx : Nat → Nat} {kx vx : Nat → Nat → Int32} {px : Nat → Int} {dx : Nat → Bool} {K V : Nat → Int32} {sz : Nat → Nat} {pl : Nat → Int} {dn : Nat → Bool} {g : Nat → Int64} (v key : Int32) (dw : Bool) (hX : RX G ad f th cx kx vx px dx) (hR : RLx th cx kx vx px dx K V sz pl dn) (hg : f 83 = eJ G 1 g) {r1 : Int32} {r2 : Int32} {f1 f2 : Nat → va_E} (h1 : HP G f g (fun r f' => OnX f f' ∧ ∃ j, j ≤ 12 ∧ v = nI j ∧ th j = true ∧ ∃ i, i < 8 ∧ th (13 + i) = false ∧ (∀ z, z < i → th (13 + z) = true) ∧ r = nI i ∧ ∃ k3 v3, RX G ad f' (va_up th (13 + i) true) (va_up cx (13 + i) (cx j)) (va_up kx (13 + i) k3) (va_up vx (13 + i) v3) (va_up px i (neaZ (cx j) k3 key (!dw))) (va_up dx i dw) ∧ ∀ z, z < cx j → k3 z = kx j z ∧ v3 z = vx j z) (fun w9 : Int32 => w9.toInt64) ((fun E => (E = xIO ∧ isv th v = false) ∨ (E = xUO ∧ isv th v = true ∧ ∀ z, z < 8 → th (13 + z) = true)) xIO) ((fun E => (E = xIO ∧ isv th v = false) ∨ (E = xUO ∧ isv th v = true ∧ ∀ z, z < 8 → th (13 + z) = true)) xUO) r1 f1) (h3 : (fun (f : Nat → va_E) => (fun r f' => OnM f f' ∧ ((∃ j, j ≤ 12 ∧ v = nI j ∧ th j = true ∧ ((∃ z, 13 ≤ z ∧ z ≤ 20 ∧ th z = false ∧ (∀ i, 13 ≤ i → i < z → th i = true) ∧ r = nI (z - 13) ∧ ∃ K2 V2, MB G ad f' 0 K2 V2 (va_up sz z (sz j)) (va_up th z true) (va_up pl (z - 13) (if dw = true then (upt (sz j) (of K2 z) key : Int) - 1 else (bel (sz j) (of K2 z) key : Int))) (va_up dn (z - 13) dw) ∧ (∀ i, i < sz j → K2 (600 * z + i) = K (600 * j + i) ∧ V2 (600 * z + i) = V (600 * j + i)) ∧ ∀ x, x < 600 * z ∨ 600 * z + 600 ≤ x → K2 x = K x ∧ V2 x = V x) ∨ ((∀ i, 13 ≤ i → i ≤ 20 → th i = true) ∧ MB G ad f' 2 K V sz th pl dn))) ∨ (isv th v = false ∧ MB G ad f' 1 K V sz th pl dn)))) f1 r2 f2) : MT G ad f2 r1 r2.toInt64 := by
  obtain ⟨hO, h3⟩ := h3
  rcases h1 with ⟨rfl, w9, fa, hp, e1⟩ | ⟨rfl, hp, e1⟩ | ⟨rfl, hp, e1⟩
  · obtain ⟨-, j, hj, rfl, ht, i, hi, hti, hlo, rfl, k3, v3, hX2, hkv⟩ := hp
    rcases h3 with ⟨j2, hj2, ej, ht2, h3⟩ | ⟨hn, -⟩
    · obtain rfl := v_in hj hj2 ej
      have hzj := hR.zs (show j < 21 by omega) ht
      have hkvj := hR.kv (show j < 21 by omega) ht
      have hnj := hR.n (show j < 21 by omega)
      have hsj := hR.s (show j < 21 by omega)
      rcases h3 with ⟨z, hz1, hz2, htz, hlo2, rfl, K2, V2, hM, hK2, hK3⟩ | ⟨hall, -⟩
      · obtain ⟨y, rfl⟩ : ∃ y, z = 13 + y := ⟨z - 13, by omega⟩
        obtain rfl : i = y := by
          rcases Nat.lt_trichotomy i y with q | q | q
          · rw [hlo2 (13 + i) (by omega) (by omega)] at hti; cases hti
          · exact q
          · rw [hlo y q] at htz; cases htz
        have e13 : 13 + i - 13 = i := by omega
        rw [hzj, e13] at hM
        rw [hzj] at hK2
        rw [e13]
        have hkk : ∀ z, z < cx j → of K2 (13 + i) z = k3 z := fun z hz => by
          show K2 (600 * (13 + i) + z) = _
          rw [(hK2 z hz).1, (hkv z hz).1]; exact (hkvj z hz).1
        have ep : (if dw = true then (upt (cx j) (of K2 (13 + i)) key : Int) - 1 else (bel (cx j) (of K2 (13 + i)) key : Int)) = neaZ (cx j) k3 key (!dw) := by
          rw [upt_congr hnj hkk, bel_congr hkk]; unfold neaZ; cases dw <;> simp
        rw [ep] at hM
        refine MT.ok hX2 e1 hO hM (hR.opn hi hnj (Srt_congr (fun z hz => (hkv z hz).1.symm) hsj) (nea_w hnj) (fun z hz => ?_) hK3) rfl
        rw [(hK2 z hz).1, (hK2 z hz).2, (hkv z hz).1, (hkv z hz).2]; exact hkvj z hz
      · rw [hall (13 + i) (by omega) (by omega)] at hti; cases hti
    · exact no_v hj ht hn
  · rcases hp with ⟨-, hn⟩ | ⟨h, -⟩
    · rcases h3 with ⟨j2, hj2, rfl, ht2, -⟩ | ⟨-, hM⟩
      · exact no_v hj2 ht2 hn
      · exact MT.no hX hg e1 hO hM hR (Or.inl rfl)
    · exact absurd h (by decide)
  · rcases hp with ⟨h, -⟩ | ⟨-, hv, hall⟩
    · exact absurd h (by decide)
    · rcases h3 with ⟨j2, hj2, rfl, ht2, h3⟩ | ⟨hn, -⟩
      · rcases h3 with ⟨z, hz1, hz2, htz, -⟩ | ⟨-, hM⟩
        · have h9 := hall (z - 13) (by omega)
          rw [show 13 + (z - 13) = z by omega, htz] at h9; cases h9
        · exact MT.no hX hg e1 hO hM hR (Or.inr rfl)
      · rw [hv] at hn; cases hn
theorem m_next {G : Gx} {ad : Nat → Nat} {f : Nat → va_E} {th : Nat → Bool} {cx : Nat → Nat} {kx vx : Nat → Nat → Int32} {px : Nat → Int} {dx : Nat → Bool} {K V : Nat → Int32} {sz : Nat → Nat} {pl : Nat → Int} {dn : Nat → Bool} {g : Nat → Int64} (v : Int32) (hX : RX G ad f th cx kx vx px dx) (hR : RLx th cx kx vx px dx K V sz pl dn) (hg : f 83 = eJ G 1 g) {r1 : Int32} {r2 : Int32} {f1 f2 : Nat → va_E} (h1 : HP G f g (fun r f' => OnX f f' ∧ ∃ q, q < 8 ∧ v = nI q ∧ th (13 + q) = true ∧ ∃ i, i < cx (13 + q) ∧ zI (px q) = nI i ∧ r = kx (13 + q) i ∧ RX G ad f' th cx kx vx (va_up px q (stp (dx q) (px q) 1)) dx) (fun w9 : Int32 => w9.toInt64) ((fun E => (E = xIO ∧ isc th v = false) ∨ (E = xNS ∧ ∃ q, q < 8 ∧ v = nI q ∧ th (13 + q) = true ∧ wi (cx (13 + q)) (zI (px q)) = false)) xIO) ((fun E => (E = xIO ∧ isc th v = false) ∨ (E = xNS ∧ ∃ q, q < 8 ∧ v = nI q ∧ th (13 + q) = true ∧ wi (cx (13 + q)) (zI (px q)) = false)) xNS) r1 f1) (h3 : (fun (f : Nat → va_E) => (fun r f' => OnM f f' ∧ ((∃ q, q < 8 ∧ v = nI q ∧ th (13 + q) = true ∧ ((ate (pl q) (sz (13 + q)) = false ∧ r = of K (13 + q) (pl q).toNat ∧ MB G ad f' 0 K V sz th (va_up pl q (gon (dn q) (pl q))) dn) ∨ (ate (pl q) (sz (13 + q)) = true ∧ MB G ad f' 2 K V sz th pl dn))) ∨ (isc th v = false ∧ MB G ad f' 1 K V sz th pl dn)))) f1 r2 f2) : MT G ad f2 r1 r2.toInt64 := by
  obtain ⟨hO, h3⟩ := h3
  rcases h1 with ⟨rfl, w9, fa, hp, e1⟩ | ⟨rfl, hp, e1⟩ | ⟨rfl, hp, e1⟩
  · obtain ⟨-, q, hq, rfl, ht, i, hi, ei, rfl, hX2⟩ := hp
    rcases h3 with ⟨q2, hq2, eq9, ht2, h3⟩ | ⟨hn, -⟩
    · obtain rfl : q = q2 := (nI_eq (by omega) (by omega)).mp eq9
      obtain ⟨epl, edn, hwc⟩ := hR.2.2.2.2.2.2 q hq ht
      have hbb := WC_b hwc
      have hnq := hR.n (show 13 + q < 21 by omega)
      have hzq := hR.zs (show 13 + q < 21 by omega) ht
      have hkvq := hR.kv (show 13 + q < 21 by omega) ht
      have epx : px q = i := by
        have h9 := congrArg Int32.toInt ei
        rw [nI_toInt (by omega), zI_toInt (by omega) (by omega)] at h9; exact h9
      rcases h3 with ⟨ha, rfl, hM⟩ | ⟨ha, -⟩
      · have e9 : gon (dn q) (pl q) = stp (dx q) (px q) 1 := by rw [epl, edn]; rfl
        rw [e9] at hM
        refine MT.ok hX2 e1 hO hM (hR.mov hq (stp_w hwc ?_)) ?_
        · unfold lft; split <;> omega
        · show (kx (13 + q) i).toInt64 = _
          rw [epl, epx, ← (hkvq i hi).1]; rfl
      · have h9 := of_decide_eq_true ha
        rw [epl, hzq] at h9; omega
    · exact no_c hq ht hn
  · rcases hp with ⟨-, hn⟩ | ⟨h, -⟩
    · rcases h3 with ⟨q2, hq2, rfl, ht2, -⟩ | ⟨-, hM⟩
      · exact no_c hq2 ht2 hn
      · exact MT.no hX hg e1 hO hM hR (Or.inl rfl)
    · exact absurd h (by decide)
  · rcases hp with ⟨h, -⟩ | ⟨-, q, hq, rfl, ht, hw⟩
    · exact absurd h (by decide)
    · rcases h3 with ⟨q2, hq2, eq9, ht2, h3⟩ | ⟨hn, -⟩
      · obtain rfl : q = q2 := (nI_eq (by omega) (by omega)).mp eq9
        obtain ⟨epl, edn, hwc⟩ := hR.2.2.2.2.2.2 q hq ht
        have hbb := WC_b hwc
        have hnq := hR.n (show 13 + q < 21 by omega)
        have hzq := hR.zs (show 13 + q < 21 by omega) ht
        have hkvq := hR.kv (show 13 + q < 21 by omega) ht
        have hw := of_decide_eq_false hw
        rw [zI_toInt (by omega) (by omega)] at hw
        rcases h3 with ⟨ha, -⟩ | ⟨-, hM⟩
        · have h9 := ate_f ha
          rw [epl, hzq] at h9; omega
        · exact MT.no hX hg e1 hO hM hR (Or.inr rfl)
      · exact no_c hq ht hn
theorem m_skip {G : Gx} {ad : Nat → Nat} {f : Nat → va_E} {th : Nat → Bool} {cx : Nat → Nat} {kx vx : Nat → Nat → Int32} {px : Nat → Int} {dx : Nat → Bool} {K V : Nat → Int32} {sz : Nat → Nat} {pl : Nat → Int} {dn : Nat → Bool} {g : Nat → Int64} (v n : Int32) (hX : RX G ad f th cx kx vx px dx) (hR : RLx th cx kx vx px dx K V sz pl dn) (hg : f 83 = eJ G 1 g) {r1 : Int32} {r2 : Int32} {f1 f2 : Nat → va_E} (h1 : HP G f g (fun r f' => OnX f f' ∧ ∃ q, q < 8 ∧ v = nI q ∧ th (13 + q) = true ∧ ∃ w, w < 2 ^ 31 ∧ n = nI w ∧ r = nI (min w (lft (dx q) (px q) (cx (13 + q)))) ∧ RX G ad f' th cx kx vx (va_up px q (stp (dx q) (px q) (min w (lft (dx q) (px q) (cx (13 + q)))))) dx) (fun w9 : Int32 => w9.toInt64) ((fun E => (E = xIO ∧ isc th v = false) ∨ (E = xIA ∧ isc th v = true ∧ n < 0)) xIO) ((fun E => (E = xIO ∧ isc th v = false) ∨ (E = xIA ∧ isc th v = true ∧ n < 0)) xIA) r1 f1) (h3 : (fun (f : Nat → va_E) => (fun r f' => OnM f f' ∧ ((∃ q, q < 8 ∧ v = nI q ∧ th (13 + q) = true ∧ ((∃ w, w < 2 ^ 31 ∧ n = nI w ∧ r = nI (min w (lft (dn q) (pl q) (sz (13 + q)))) ∧ MB G ad f' 0 K V sz th (va_up pl q (stp (dn q) (pl q) (min w (lft (dn q) (pl q) (sz (13 + q)))))) dn) ∨ (n < 0 ∧ MB G ad f' 2 K V sz th pl dn))) ∨ (isc th v = false ∧ MB G ad f' 1 K V sz th pl dn)))) f1 r2 f2) : MT G ad f2 r1 r2.toInt64 := by
  obtain ⟨hO, h3⟩ := h3
  rcases h1 with ⟨rfl, w9, fa, hp, e1⟩ | ⟨rfl, hp, e1⟩ | ⟨rfl, hp, e1⟩
  · obtain ⟨-, q, hq, rfl, ht, w, hw, rfl, rfl, hX2⟩ := hp
    rcases h3 with ⟨q2, hq2, eq9, ht2, h3⟩ | ⟨hn, -⟩
    · obtain rfl : q = q2 := (nI_eq (by omega) (by omega)).mp eq9
      obtain ⟨epl, edn, hwc⟩ := hR.2.2.2.2.2.2 q hq ht
      have hbb := WC_b hwc
      have hnq := hR.n (show 13 + q < 21 by omega)
      have hzq := hR.zs (show 13 + q < 21 by omega) ht
      have hkvq := hR.kv (show 13 + q < 21 by omega) ht
      rcases h3 with ⟨w2, hw2, ew, rfl, hM⟩ | ⟨hn, -⟩
      · obtain rfl : w = w2 := (nI_eq hw hw2).mp ew
        rw [epl, edn, hzq] at hM
        exact MT.ok hX2 e1 hO hM (hR.mov hq (stp_w hwc (Nat.min_le_right _ _))) (by rw [epl, edn, hzq])
      · rw [i32_lt, nI_toInt hw, Int32.toInt_zero] at hn; omega
    · exact no_c hq ht hn
  · rcases hp with ⟨-, hn⟩ | ⟨h, -⟩
    · rcases h3 with ⟨q2, hq2, rfl, ht2, -⟩ | ⟨-, hM⟩
      · exact no_c hq2 ht2 hn
      · exact MT.no hX hg e1 hO hM hR (Or.inl rfl)
    · exact absurd h (by decide)
  · rcases hp with ⟨h, -⟩ | ⟨-, hv, hneg⟩
    · exact absurd h (by decide)
    · rcases h3 with ⟨q2, hq2, rfl, ht2, h3⟩ | ⟨hn, -⟩
      · rcases h3 with ⟨w2, hw2, rfl, -⟩ | ⟨-, hM⟩
        · rw [i32_lt, nI_toInt hw2, Int32.toInt_zero] at hneg; omega
        · exact MT.no hX hg e1 hO hM hR (Or.inr rfl)
      · rw [hv] at hn; cases hn
theorem m_peek {G : Gx} {ad : Nat → Nat} {f : Nat → va_E} {th : Nat → Bool} {cx : Nat → Nat} {kx vx : Nat → Nat → Int32} {px : Nat → Int} {dx : Nat → Bool} {K V : Nat → Int32} {sz : Nat → Nat} {pl : Nat → Int} {dn : Nat → Bool} {g : Nat → Int64} (v : Int32) (hX : RX G ad f th cx kx vx px dx) (hR : RLx th cx kx vx px dx K V sz pl dn) (hg : f 83 = eJ G 1 g) {r1 : Int32} {r2 : Int32} {f1 f2 : Nat → va_E} (h1 : HP G f g (fun r f' => f = f' ∧ ∃ q, q < 8 ∧ v = nI q ∧ th (13 + q) = true ∧ ∃ i, i < cx (13 + q) ∧ zI (px q) = nI i ∧ r = vx (13 + q) i) (fun w9 : Int32 => w9.toInt64) ((fun E => (E = xIO ∧ isc th v = false) ∨ (E = xNS ∧ ∃ q, q < 8 ∧ v = nI q ∧ th (13 + q) = true ∧ wi (cx (13 + q)) (zI (px q)) = false)) xIO) ((fun E => (E = xIO ∧ isc th v = false) ∨ (E = xNS ∧ ∃ q, q < 8 ∧ v = nI q ∧ th (13 + q) = true ∧ wi (cx (13 + q)) (zI (px q)) = false)) xNS) r1 f1) (h3 : (fun (f : Nat → va_E) => (fun r f' => OnM f f' ∧ ((∃ q, q < 8 ∧ v = nI q ∧ th (13 + q) = true ∧ ((ate (pl q) (sz (13 + q)) = false ∧ r = of V (13 + q) (pl q).toNat ∧ MB G ad f' 0 K V sz th pl dn) ∨ (ate (pl q) (sz (13 + q)) = true ∧ MB G ad f' 2 K V sz th pl dn))) ∨ (isc th v = false ∧ MB G ad f' 1 K V sz th pl dn)))) f1 r2 f2) : MT G ad f2 r1 r2.toInt64 := by
  obtain ⟨hO, h3⟩ := h3
  rcases h1 with ⟨rfl, w9, fa, hp, e1⟩ | ⟨rfl, hp, e1⟩ | ⟨rfl, hp, e1⟩
  · obtain ⟨rfl, q, hq, rfl, ht, i, hi, ei, rfl⟩ := hp
    rcases h3 with ⟨q2, hq2, eq9, ht2, h3⟩ | ⟨hn, -⟩
    · obtain rfl : q = q2 := (nI_eq (by omega) (by omega)).mp eq9
      obtain ⟨epl, edn, hwc⟩ := hR.2.2.2.2.2.2 q hq ht
      have hbb := WC_b hwc
      have hnq := hR.n (show 13 + q < 21 by omega)
      have hzq := hR.zs (show 13 + q < 21 by omega) ht
      have hkvq := hR.kv (show 13 + q < 21 by omega) ht
      have epx : px q = i := by
        have h9 := congrArg Int32.toInt ei
        rw [nI_toInt (by omega), zI_toInt (by omega) (by omega)] at h9; exact h9
      rcases h3 with ⟨ha, rfl, hM⟩ | ⟨ha, -⟩
      · refine MT.ok hX e1 hO hM hR ?_
        show (vx (13 + q) i).toInt64 = _
        rw [epl, epx, ← (hkvq i hi).2]; rfl
      · have h9 := of_decide_eq_true ha
        rw [epl, hzq] at h9; omega
    · exact no_c hq ht hn
  · rcases hp with ⟨-, hn⟩ | ⟨h, -⟩
    · rcases h3 with ⟨q2, hq2, rfl, ht2, -⟩ | ⟨-, hM⟩
      · exact no_c hq2 ht2 hn
      · exact MT.no hX hg e1 hO hM hR (Or.inl rfl)
    · exact absurd h (by decide)
  · rcases hp with ⟨h, -⟩ | ⟨-, q, hq, rfl, ht, hw⟩
    · exact absurd h (by decide)
    · rcases h3 with ⟨q2, hq2, eq9, ht2, h3⟩ | ⟨hn, -⟩
      · obtain rfl : q = q2 := (nI_eq (by omega) (by omega)).mp eq9
        obtain ⟨epl, edn, hwc⟩ := hR.2.2.2.2.2.2 q hq ht
        have hbb := WC_b hwc
        have hnq := hR.n (show 13 + q < 21 by omega)
        have hzq := hR.zs (show 13 + q < 21 by omega) ht
        have hkvq := hR.kv (show 13 + q < 21 by omega) ht
        have hw := of_decide_eq_false hw
        rw [zI_toInt (by omega) (by omega)] at hw
        rcases h3 with ⟨ha, -⟩ | ⟨-, hM⟩
        · have h9 := ate_f ha
          rw [epl, hzq] at h9; omega
        · exact MT.no hX hg e1 hO hM hR (Or.inr rfl)
      · exact no_c hq ht hn
theorem m_close {G : Gx} {ad : Nat → Nat} {f : Nat → va_E} {th : Nat → Bool} {cx : Nat → Nat} {kx vx : Nat → Nat → Int32} {px : Nat → Int} {dx : Nat → Bool} {K V : Nat → Int32} {sz : Nat → Nat} {pl : Nat → Int} {dn : Nat → Bool} {g : Nat → Int64} (v : Int32) (hX : RX G ad f th cx kx vx px dx) (hR : RLx th cx kx vx px dx K V sz pl dn) (hg : f 83 = eJ G 1 g) {r1 : Int32} {r2 : Int32} {f1 f2 : Nat → va_E} (h1 : HP G f g (fun r f' => OnX f f' ∧ ∃ q, q < 8 ∧ v = nI q ∧ th (13 + q) = true ∧ r = nI (cnt (8 - 0) (fun z => (fun q9 => va_up th (13 + q) false (13 + q9)) (0 + z))) ∧ RX G ad f' (va_up th (13 + q) false) (va_up cx (13 + q) 0) kx vx (va_up px q 0) dx) (fun w9 : Int32 => w9.toInt64) ((fun E => E = xIO ∧ isc th v = false) xIO) False r1 f1) (h3 : (fun (f : Nat → va_E) => (fun r f' => OnM f f' ∧ ((∃ q, q < 8 ∧ v = nI q ∧ th (13 + q) = true ∧ r = nI (cnt 8 (fun z => va_up th (13 + q) false (13 + z))) ∧ MB G ad f' 0 K V sz (va_up th (13 + q) false) pl dn) ∨ (isc th v = false ∧ MB G ad f' 1 K V sz th pl dn)))) f1 r2 f2) : MT G ad f2 r1 r2.toInt64 := by
  obtain ⟨hO, h3⟩ := h3
  rcases h1 with ⟨rfl, w9, fa, hp, e1⟩ | ⟨rfl, hp, e1⟩ | ⟨-, hp, -⟩
  · obtain ⟨-, q, hq, rfl, ht, rfl, hX2⟩ := hp
    rcases h3 with ⟨q2, hq2, eq9, ht2, rfl, hM⟩ | ⟨hn, -⟩
    · obtain rfl : q = q2 := (nI_eq (by omega) (by omega)).mp eq9
      refine MT.ok hX2 e1 hO hM (hR.cls hq) ?_
      refine congrArg (fun n : Nat => (nI n).toInt64) ?_
      exact cnt_congr (fun i _ => by show va_up th (13 + q) false (13 + (0 + i)) = va_up th (13 + q) false (13 + i); rw [Nat.zero_add])
    · exact no_c hq ht hn
  · obtain ⟨-, hn⟩ := hp
    rcases h3 with ⟨q2, hq2, rfl, ht2, -⟩ | ⟨-, hM⟩
    · exact no_c hq2 ht2 hn
    · exact MT.no hX hg e1 hO hM hR (Or.inl rfl)
  · exact hp.elim
theorem m_cut {G : Gx} {ad : Nat → Nat} {f : Nat → va_E} {th : Nat → Bool} {cx : Nat → Nat} {kx vx : Nat → Nat → Int32} {px : Nat → Int} {dx : Nat → Bool} {K V : Nat → Int32} {sz : Nat → Nat} {pl : Nat → Int} {dn : Nat → Bool} {g : Nat → Int64} (lo hi : Int32) (hX : RX G ad f th cx kx vx px dx) (hR : RLx th cx kx vx px dx K V sz pl dn) (hg : f 83 = eJ G 1 g) {r1 : Int32} {r2 : Int32} {f1 f2 : Nat → va_E} (h1 : (fun r f' => OnX f f' ∧ r = nI ((upt (cx 0) (kx 0) hi) - (bel (cx 0) (kx 0) lo)) ∧ ∃ k2 v2, RX G ad f' th (va_up cx 0 (cx 0 - ((upt (cx 0) (kx 0) hi) - (bel (cx 0) (kx 0) lo)))) (va_up kx 0 k2) (va_up vx 0 v2) px dx ∧ ∀ i, i < cx 0 - ((upt (cx 0) (kx 0) hi) - (bel (cx 0) (kx 0) lo)) → k2 i = delF (kx 0) (bel (cx 0) (kx 0) lo) ((upt (cx 0) (kx 0) hi) - (bel (cx 0) (kx 0) lo)) i ∧ v2 i = delF (vx 0) (bel (cx 0) (kx 0) lo) ((upt (cx 0) (kx 0) hi) - (bel (cx 0) (kx 0) lo)) i) r1 f1) (h3 : (fun (f : Nat → va_E) => (fun r f' => OnM f f' ∧ r = nI (man (sz 0) (of K 0) lo hi) ∧ ∃ K2 V2, MB G ad f' 0 K2 V2 (va_up sz 0 (sz 0 - man (sz 0) (of K 0) lo hi)) th pl dn ∧ (∀ i, i < sz 0 - man (sz 0) (of K 0) lo hi → K2 i = delF K (bel (sz 0) (of K 0) lo) (man (sz 0) (of K 0) lo hi) i ∧ V2 i = delF V (bel (sz 0) (of K 0) lo) (man (sz 0) (of K 0) lo hi) i) ∧ ∀ i, 600 ≤ i → K2 i = K i ∧ V2 i = V i)) f1 r2 f2) : r1 = r2 ∧ LV G ad f2 0 ∧ ∃ g, f2 83 = eJ G 1 g := by
  have ht0 := hR.1
  have hn0 := hR.n (show 0 < 21 by decide)
  have hs0 := hR.s (show 0 < 21 by decide)
  have hz0 := hR.zs (show 0 < 21 by decide) ht0
  have hk0 := hR.k (show 0 < 21 by decide) ht0
  have hkv0 : ∀ i, i < cx 0 → K i = kx 0 i ∧ V i = vx 0 i := fun i hi => by have h9 := hR.kv (show 0 < 21 by decide) ht0 i hi; simp only [of, Nat.mul_zero, Nat.zero_add] at h9; exact h9
  obtain ⟨hO, h3⟩ := h3
  obtain ⟨hOX, rfl, k2, v2, hX2, hkv⟩ := h1
  rw [hz0, man_sub hn0, bel_congr hk0, upt_congr hn0 hk0] at h3
  obtain ⟨rfl, K2, V2, hM, hK2, hK3⟩ := h3
  have hb := upt_le (cx 0) (kx 0) hi hn0
  have hb2 := bel_le (cx 0) (kx 0) lo
  refine ⟨rfl, ⟨_, _, _, _, _, _, _, _, _, _, _, hX2.onM hO, hM, hR.put (j := 0) (by decide) (up_tt ht0) rfl rfl rfl (by omega) (Srt_congr (fun i hi => (hkv i hi).1.symm) (del_srt hs0 (by omega))) (fun i hi => ?_) (fun x hx => hK3 x (by omega))⟩, g, ?_⟩
  · rw [show 600 * 0 + i = i by omega, (hK2 i hi).1, (hK2 i hi).2, (hkv i hi).1, (hkv i hi).2]
    exact ⟨delF_congr (fun i hi => (hkv0 i hi).1) (by omega) hi, delF_congr (fun i hi => (hkv0 i hi).2) (by omega) hi⟩
  · rw [hO 83 (Or.inr (by omega)), hOX 83 (by omega)]; exact hg
theorem m_astray {G : Gx} {ad : Nat → Nat} {f : Nat → va_E} {th : Nat → Bool} {cx : Nat → Nat} {kx vx : Nat → Nat → Int32} {px : Nat → Int} {dx : Nat → Bool} {K V : Nat → Int32} {sz : Nat → Nat} {pl : Nat → Int} {dn : Nat → Bool} {g : Nat → Int64}  (hX : RX G ad f th cx kx vx px dx) (hR : RLx th cx kx vx px dx K V sz pl dn) (hg : f 83 = eJ G 1 g) {r1 : Int32} {r2 : Int32} {f1 f2 : Nat → va_E} (h1 : (fun r f' => f = f' ∧ r = nI 0) r1 f1) (h3 : (fun (f : Nat → va_E) => (fun r f' => OnM f f' ∧ r = nI 0 ∧ MB G ad f' 0 K V sz th pl dn)) f1 r2 f2) : r1 = r2 ∧ LV G ad f2 0 ∧ ∃ g, f2 83 = eJ G 1 g := by
  obtain ⟨hO, rfl, hM⟩ := h3
  obtain ⟨rfl, rfl⟩ := h1
  exact ⟨rfl, ⟨_, _, _, _, _, _, _, _, _, _, _, hX.onM hO, hM, hR⟩, g, (hO 83 (Or.inr (by omega))).trans hg⟩
end OVQ

section OVR
/-- class and reference hold the same: what is there, what the maps hold, where the cursors stand -/
def RLx (th : Nat → Bool) (cx : Nat → Nat) (kx vx : Nat → Nat → Int32) (px : Nat → Int) (dx : Nat → Bool) (K V : Nat → Int32) (sz : Nat → Nat) (pl : Nat → Int) (dn : Nat → Bool) : Prop :=
  th 0 = true ∧ (∀ j, j < 21 → cx j ≤ 600) ∧ (∀ j, j < 21 → Srt (cx j) (kx j)) ∧ (∀ j, j < 21 → th j = false → cx j = 0) ∧
  (∀ j, j < 21 → th j = true → sz j = cx j ∧ ∀ i, i < cx j → of K j i = kx j i ∧ of V j i = vx j i) ∧
  (∀ q, q < 8 → -1 ≤ px q ∧ px q ≤ cx (13 + q)) ∧ (∀ q, q < 8 → th (13 + q) = true → pl q = px q ∧ dn q = dx q ∧ WCp (dx q) (px q) (cx (13 + q)))
section
variable {th : Nat → Bool} {cx : Nat → Nat} {kx vx : Nat → Nat → Int32} {px : Nat → Int} {dx : Nat → Bool} {K V : Nat → Int32} {sz : Nat → Nat} {pl : Nat → Int} {dn : Nat → Bool}
theorem RLx.n (h : RLx th cx kx vx px dx K V sz pl dn) {j : Nat} (hj : j < 21) : cx j ≤ 600 := h.2.1 j hj
theorem RLx.s (h : RLx th cx kx vx px dx K V sz pl dn) {j : Nat} (hj : j < 21) : Srt (cx j) (kx j) := h.2.2.1 j hj
theorem RLx.zs (h : RLx th cx kx vx px dx K V sz pl dn) {j : Nat} (hj : j < 21) (ht : th j = true) : sz j = cx j := (h.2.2.2.2.1 j hj ht).1
theorem RLx.kv (h : RLx th cx kx vx px dx K V sz pl dn) {j : Nat} (hj : j < 21) (ht : th j = true) : ∀ i, i < cx j → of K j i = kx j i ∧ of V j i = vx j i := (h.2.2.2.2.1 j hj ht).2
theorem RLx.k (h : RLx th cx kx vx px dx K V sz pl dn) {j : Nat} (hj : j < 21) (ht : th j = true) : ∀ i, i < cx j → of K j i = kx j i := fun i hi => (h.kv hj ht i hi).1
theorem RLx.hW (h : RLx th cx kx vx px dx K V sz pl dn) : ∀ j, j < 21 → th j = true → sz j ≤ 600 := fun j hj ht => by rw [h.zs hj ht]; exact h.n hj
theorem RLx.hS (h : RLx th cx kx vx px dx K V sz pl dn) : ∀ j, j < 21 → th j = true → Srt (sz j) (of K j) := fun j hj ht => by
  rw [h.zs hj ht]; exact Srt_congr (fun i hi => (h.k hj ht i hi).symm) (h.s hj)
theorem RLx.hC (h : RLx th cx kx vx px dx K V sz pl dn) : ∀ q, q < 8 → th (13 + q) = true → WCp (dn q) (pl q) (sz (13 + q)) := fun q hq ht => by
  obtain ⟨a, b, c⟩ := h.2.2.2.2.2.2 q hq ht
  rw [a, b, h.zs (by omega) ht]; exact c
theorem RLx.hC9 (h : RLx th cx kx vx px dx K V sz pl dn) : ∀ q, q < 8 → th (13 + q) = true → WCp (dx q) (px q) (cx (13 + q)) := fun q hq ht => (h.2.2.2.2.2.2 q hq ht).2.2
/-- one of the versions is another one on both sides -/
theorem RLx.put {th2 : Nat → Bool} {cx2 sz2 : Nat → Nat} {kx2 : Nat → Nat → Int32} {j n : Nat} {k2 v2 K2 V2 : Nat → Int32} (h : RLx th cx kx vx px dx K V sz pl dn) (hj : j ≤ 12) (ht : th2 = va_up th j true) (hc : cx2 = va_up cx j n) (hk : kx2 = va_up kx j k2) (hz : sz2 = va_up sz j n) (hn : n ≤ 600) (hS : Srt n k2)
    (hK : ∀ i, i < n → K2 (600 * j + i) = k2 i ∧ V2 (600 * j + i) = v2 i) (ho : ∀ x, x < 600 * j ∨ 600 * j + 600 ≤ x → K2 x = K x ∧ V2 x = V x) : RLx th2 cx2 kx2 (va_up vx j v2) px dx K2 V2 sz2 pl dn := by
  subst ht; subst hc; subst hk; subst hz
  obtain ⟨a1, a2, a3, a4, a5, a6, a7⟩ := h
  refine ⟨?_, fun i hi => ?_, fun i hi => ?_, fun i hi g => ?_, fun i hi g => ?_, fun q hq => ?_, fun q hq g => ?_⟩
  · by_cases e : 0 = j
    · rw [← e, va_up_self]
    · rw [va_up_ne _ _ e]; exact a1
  · by_cases e : i = j
    · rw [e, va_up_self]; exact hn
    · rw [va_up_ne _ _ e]; exact a2 i hi
  · by_cases e : i = j
    · rw [e, va_up_self, va_up_self]; exact hS
    · rw [va_up_ne _ _ e, va_up_ne _ _ e]; exact a3 i hi
  · by_cases e : i = j
    · rw [e, va_up_self] at g; cases g
    · rw [va_up_ne _ _ e] at g ⊢; exact a4 i hi g
  · by_cases e : i = j
    · rw [e, va_up_self, va_up_self, va_up_self, va_up_self]; exact ⟨rfl, hK⟩
    · rw [va_up_ne _ _ e] at g
      rw [va_up_ne _ _ e, va_up_ne _ _ e, va_up_ne _ _ e, va_up_ne _ _ e]
      obtain ⟨b1, b2⟩ := a5 i hi g
      refine ⟨b1, fun z hz => ?_⟩
      have c1 := a2 i hi
      have c2 := ho (600 * i + z) (by omega)
      show K2 (600 * i + z) = _ ∧ V2 (600 * i + z) = _
      rw [c2.1, c2.2]; exact b2 z hz
  · rw [va_up_ne _ _ (by omega)]; exact a6 q hq
  · rw [va_up_ne _ _ (by omega)] at g
    rw [va_up_ne _ _ (by omega)]; exact a7 q hq g
theorem RLx.rel {j : Nat} (h : RLx th cx kx vx px dx K V sz pl dn) (h1 : 1 ≤ j) (hj : j ≤ 12) : RLx (va_up th j false) (va_up cx j 0) kx vx px dx K V sz pl dn := by
  obtain ⟨a1, a2, a3, a4, a5, a6, a7⟩ := h
  refine ⟨?_, fun i hi => ?_, fun i hi => ?_, fun i hi g => ?_, fun i hi g => ?_, fun q hq => ?_, fun q hq g => ?_⟩
  · rw [va_up_ne _ _ (by omega)]; exact a1
  · by_cases e : i = j
    · rw [e, va_up_self]; omega
    · rw [va_up_ne _ _ e]; exact a2 i hi
  · by_cases e : i = j
    · rw [e, va_up_self]; intro x y _ hy; exact absurd hy (Nat.not_lt_zero _)
    · rw [va_up_ne _ _ e]; exact a3 i hi
  · by_cases e : i = j
    · rw [e, va_up_self]
    · rw [va_up_ne _ _ e] at g ⊢; exact a4 i hi g
  · by_cases e : i = j
    · rw [e, va_up_self] at g; cases g
    · rw [va_up_ne _ _ e] at g ⊢; exact a5 i hi g
  · rw [va_up_ne _ _ (by omega)]; exact a6 q hq
  · rw [va_up_ne _ _ (by omega)] at g ⊢; exact a7 q hq g
theorem RLx.cls {q : Nat} (h : RLx th cx kx vx px dx K V sz pl dn) (hq : q < 8) : RLx (va_up th (13 + q) false) (va_up cx (13 + q) 0) kx vx (va_up px q 0) dx K V sz pl dn := by
  obtain ⟨a1, a2, a3, a4, a5, a6, a7⟩ := h
  refine ⟨?_, fun i hi => ?_, fun i hi => ?_, fun i hi g => ?_, fun i hi g => ?_, fun z hz => ?_, fun z hz g => ?_⟩
  · rw [va_up_ne _ _ (by omega)]; exact a1
  · by_cases e : i = 13 + q
    · rw [e, va_up_self]; omega
    · rw [va_up_ne _ _ e]; exact a2 i hi
  · by_cases e : i = 13 + q
    · rw [e, va_up_self]; intro x y _ hy; exact absurd hy (Nat.not_lt_zero _)
    · rw [va_up_ne _ _ e]; exact a3 i hi
  · by_cases e : i = 13 + q
    · rw [e, va_up_self]
    · rw [va_up_ne _ _ e] at g ⊢; exact a4 i hi g
  · by_cases e : i = 13 + q
    · rw [e, va_up_self] at g; cases g
    · rw [va_up_ne _ _ e] at g ⊢; exact a5 i hi g
  · by_cases e : z = q
    · rw [e, va_up_self, va_up_self]; omega
    · rw [va_up_ne _ _ e, va_up_ne _ _ (by omega)]; exact a6 z hz
  · by_cases e : z = q
    · rw [e, va_up_self] at g; cases g
    · rw [va_up_ne _ _ (by omega)] at g; rw [va_up_ne _ _ e, va_up_ne _ _ (by omega)]; exact a7 z hz g
theorem RLx.mov {q : Nat} {p : Int} (h : RLx th cx kx vx px dx K V sz pl dn) (hq : q < 8) (hp : WCp (dx q) p (cx (13 + q))) : RLx th cx kx vx (va_up px q p) dx K V sz (va_up pl q p) dn := by
  obtain ⟨a1, a2, a3, a4, a5, a6, a7⟩ := h
  refine ⟨a1, a2, a3, a4, a5, fun z hz => ?_, fun z hz g => ?_⟩
  · by_cases e : z = q
    · rw [e, va_up_self]; exact WC_b hp
    · rw [va_up_ne _ _ e]; exact a6 z hz
  · by_cases e : z = q
    · rw [e] at g; rw [e, va_up_self, va_up_self]; exact ⟨rfl, (a7 q hq g).2.1, hp⟩
    · rw [va_up_ne _ _ e, va_up_ne _ _ e]; exact a7 z hz g
theorem RLx.opn {q n : Nat} {p : Int} {d : Bool} {k2 v2 K2 V2 : Nat → Int32} (h : RLx th cx kx vx px dx K V sz pl dn) (hq : q < 8) (hn : n ≤ 600) (hS : Srt n k2) (hp : WCp d p n)
    (hK : ∀ i, i < n → K2 (600 * (13 + q) + i) = k2 i ∧ V2 (600 * (13 + q) + i) = v2 i) (ho : ∀ x, x < 600 * (13 + q) ∨ 600 * (13 + q) + 600 ≤ x → K2 x = K x ∧ V2 x = V x) : RLx (va_up th (13 + q) true) (va_up cx (13 + q) n) (va_up kx (13 + q) k2) (va_up vx (13 + q) v2) (va_up px q p) (va_up dx q d) K2 V2 (va_up sz (13 + q) n) (va_up pl q p) (va_up dn q d) := by
  obtain ⟨a1, a2, a3, a4, a5, a6, a7⟩ := h
  refine ⟨?_, fun i hi => ?_, fun i hi => ?_, fun i hi g => ?_, fun i hi g => ?_, fun z hz => ?_, fun z hz g => ?_⟩
  · rw [va_up_ne _ _ (by omega)]; exact a1
  · by_cases e : i = 13 + q
    · rw [e, va_up_self]; exact hn
    · rw [va_up_ne _ _ e]; exact a2 i hi
  · by_cases e : i = 13 + q
    · rw [e, va_up_self, va_up_self]; exact hS
    · rw [va_up_ne _ _ e, va_up_ne _ _ e]; exact a3 i hi
  · by_cases e : i = 13 + q
    · rw [e, va_up_self] at g; cases g
    · rw [va_up_ne _ _ e] at g ⊢; exact a4 i hi g
  · by_cases e : i = 13 + q
    · rw [e, va_up_self, va_up_self, va_up_self, va_up_self]; exact ⟨rfl, hK⟩
    · rw [va_up_ne _ _ e] at g
      rw [va_up_ne _ _ e, va_up_ne _ _ e, va_up_ne _ _ e, va_up_ne _ _ e]
      obtain ⟨b1, b2⟩ := a5 i hi g
      refine ⟨b1, fun z hz => ?_⟩
      have c1 := a2 i hi
      have c2 := ho (600 * i + z) (by omega)
      show K2 (600 * i + z) = _ ∧ V2 (600 * i + z) = _
      rw [c2.1, c2.2]; exact b2 z hz
  · by_cases e : z = q
    · rw [e, va_up_self, va_up_self]; exact WC_b hp
    · rw [va_up_ne _ _ e, va_up_ne _ _ (by omega)]; exact a6 z hz
  · by_cases e : z = q
    · rw [e, va_up_self, va_up_self, va_up_self, va_up_self, va_up_self]; exact ⟨rfl, rfl, hp⟩
    · rw [va_up_ne _ _ (by omega)] at g
      rw [va_up_ne _ _ e, va_up_ne _ _ e, va_up_ne _ _ e, va_up_ne _ _ e, va_up_ne _ _ (by omega)]; exact a7 z hz g
end
/-- between two calls -/
def LV (G : Gx) (ad : Nat → Nat) (f : Nat → va_E) (cd : Nat) : Prop := ∃ th cx kx vx px dx K V sz pl dn, RX G ad f th cx kx vx px dx ∧ MB G ad f cd K V sz th pl dn ∧ RLx th cx kx vx px dx K V sz pl dn
/-- behind a call on both sides: the answers are the same -/
def MT (G : Gx) (ad : Nat → Nat) (f : Nat → va_E) (k : Int32) (b : Int64) : Prop := ∃ cd, cd ≤ 2 ∧ k = nI cd ∧ LV G ad f cd ∧ ∃ g, f 83 = eJ G 1 g ∧ (cd = 0 → g 0 = b)
/-- what a helper of the law did -/
def HP (G : Gx) (f : Nat → va_E) (g : Nat → Int64) {α : Type} (post : α → (Nat → va_E) → Prop) (val : α → Int64) (X1 X2 : Prop) (r : Int32) (f' : Nat → va_E) : Prop :=
  (r = nI 0 ∧ ∃ w f1, post w f1 ∧ f' = va_up f1 83 (eJ G 1 (vp_updL g 0 (val w)))) ∨ (r = nI 1 ∧ X1 ∧ f' = f) ∨ (r = nI 2 ∧ X2 ∧ f' = f)
theorem HP.keep {G : Gx} {f : Nat → va_E} {g : Nat → Int64} {α : Type} {post : α → (Nat → va_E) → Prop} {val : α → Int64} {X1 X2 : Prop} {r : Int32} {f' : Nat → va_E} (h : HP G f g post val X1 X2 r f') (hp : ∀ w f1, post w f1 → OnX f f1) : ∀ c, 76 ≤ c → c ≤ 82 → f' c = f c := by
  intro c h1 h2
  rcases h with ⟨-, w, f1, h, rfl⟩ | ⟨-, -, rfl⟩ | ⟨-, -, rfl⟩
  · rw [va_up_ne _ _ (by omega)]; exact hp w f1 h c h1
  · rfl
  · rfl
section
variable {G : Gx} {ad : Nat → Nat} {f f1 f2 fa : Nat → va_E} {th : Nat → Bool} {cx : Nat → Nat} {kx vx : Nat → Nat → Int32} {px : Nat → Int} {dx : Nat → Bool} {cd : Nat} {K V : Nat → Int32} {sz : Nat → Nat} {pl : Nat → Int} {dn : Nat → Bool} {g : Nat → Int64}
theorem MB.keep (h : MB G ad f cd K V sz th pl dn) (hk : ∀ c, 76 ≤ c → c ≤ 82 → f1 c = f c) : MB G ad f1 cd K V sz th pl dn := by
  obtain ⟨a1, a2, a3, a4, a5, a6, a7⟩ := h
  exact ⟨(hk 76 (by omega) (by omega)).trans a1, (hk 77 (by omega) (by omega)).trans a2, (hk 78 (by omega) (by omega)).trans a3, (hk 79 (by omega) (by omega)).trans a4, (hk 80 (by omega) (by omega)).trans a5, (hk 81 (by omega) (by omega)).trans a6, (hk 82 (by omega) (by omega)).trans a7⟩
theorem RX.onM (h : RX G ad f th cx kx vx px dx) (hO : OnM f f1) : RX G ad f1 th cx kx vx px dx := h.keep (fun c hc => hO c (Or.inl hc))
theorem MT.ok {v b : Int64} (hX : RX G ad fa th cx kx vx px dx) (e : f1 = va_up fa 83 (eJ G 1 (vp_updL g 0 v))) (hO : OnM f1 f2) (hM : MB G ad f2 0 K V sz th pl dn) (hR : RLx th cx kx vx px dx K V sz pl dn) (hv : v = b) : MT G ad f2 (nI 0) b := by
  have hX1 : RX G ad f1 th cx kx vx px dx := hX.keep (fun c hc => by rw [e, va_up_ne _ _ (by omega)])
  refine ⟨0, by omega, rfl, ⟨th, cx, kx, vx, px, dx, K, V, sz, pl, dn, hX1.onM hO, hM, hR⟩, vp_updL g 0 v, (hO 83 (Or.inr (by omega))).trans (by rw [e, va_up_self]), fun _ => ?_⟩
  rw [← hv]; rfl
theorem MT.no {b : Int64} (hX : RX G ad f th cx kx vx px dx) (hg : f 83 = eJ G 1 g) (e : f1 = f) (hO : OnM f1 f2) (hM : MB G ad f2 cd K V sz th pl dn) (hR : RLx th cx kx vx px dx K V sz pl dn) (h : cd = 1 ∨ cd = 2) : MT G ad f2 (nI cd) b := by
  subst e
  exact ⟨cd, by omega, rfl, ⟨th, cx, kx, vx, px, dx, K, V, sz, pl, dn, hX.onM hO, hM, hR⟩, g, (hO 83 (Or.inr (by omega))).trans hg, fun q => by omega⟩
end
theorem v_in {i j : Nat} (h1 : i ≤ 12) (h2 : j ≤ 12) (e : nI i = nI j) : i = j := (nI_eq (by omega) (by omega)).mp e
theorem no_v {th : Nat → Bool} {j : Nat} {P : Prop} (hj : j ≤ 12) (ht : th j = true) (h : isv th (nI j) = false) : P := by rw [isv_nI hj, ht] at h; cases h
theorem no_s {th : Nat → Bool} {j : Nat} {P : Prop} (h1 : 1 ≤ j) (hj : j ≤ 12) (ht : th j = true) (h : iss th (nI j) = false) : P := by rw [iss_nI hj h1, ht] at h; cases h
theorem no_c {th : Nat → Bool} {q : Nat} {P : Prop} (hq : q < 8) (ht : th (13 + q) = true) (h : isc th (nI q) = false) : P := by rw [isc_nI hq, ht] at h; cases h
theorem up_tt {th : Nat → Bool} {j : Nat} (h : th j = true) : th = va_up th j true := by rw [← h, up_id]
end OVR

section OVCP
def PA (G : Gx) (N : Nat) (ad : Nat → Nat) (f : Nat → va_E) (i : Nat) : Prop := f 0 = .inr (2, [.ref (ad 1), .ref (ad 4), .ref (ad 5), .null, .null]) ∧ (∃ g, f 4 = eT G 13 g ∧ ∀ j, j < i → g j = some (ad (tc j))) ∧ f 5 = eZ G 13 (upd (fun _ => 0) 0 (nI 1)) ∧ ∀ j, j < i → TB G N ad f (tc j) 0 (fun _ => 0) (fun _ => 0)
def PB (G : Gx) (N : Nat) (ad : Nat → Nat) (f : Nat → va_E) (i : Nat) : Prop := f 0 = .inr (2, [.ref (ad 1), .ref (ad 4), .ref (ad 5), .ref (ad 42), .ref (ad 43)]) ∧ (∃ g, f 4 = eT G 13 g ∧ ∀ j, j < 13 → g j = some (ad (tc j))) ∧ f 5 = eZ G 13 (upd (fun _ => 0) 0 (nI 1)) ∧ (∀ j, j < 13 → TB G N ad f (tc j) 0 (fun _ => 0) (fun _ => 0)) ∧ (∃ g, f 42 = eU G 8 g ∧ ∀ q, q < i → g q = some (ad (44 + 4 * q))) ∧ f 43 = eZ G 8 (fun _ => 0) ∧ (∀ q, q < i → TB G N ad f (45 + 4 * q) 0 (fun _ => 0) (fun _ => 0)) ∧ ∀ q, q < i → CB ad f (44 + 4 * q) false 0
variable {G : Gx} {N N' : Nat} {ad ad1 : Nat → Nat} {f f1 : Nat → va_E} {i : Nat}
theorem PA.grow (h : PA G N ad f i) (hg : ov_gr N ad ad1 f f1) (h6 : 6 ≤ N) (hN : N ≤ N') : PA G N' ad1 f1 i := by
  obtain ⟨h0, ⟨g, h4, e4⟩, h5, hT⟩ := h
  refine ⟨?_, ⟨g, ?_, fun j hj => ?_⟩, ?_, fun j hj => (hT j hj).grow hg hN⟩
  · rw [hg.2 0 (by omega), h0, hg.1 1 (by omega), hg.1 4 (by omega), hg.1 5 (by omega)]
  · rw [hg.2 4 (by omega), h4]
  · rw [e4 j hj, hg.1 _ (hT j hj).lt0]
  · rw [hg.2 5 (by omega), h5]
theorem PA.add {g : Nat → Option Nat} (h : PA G N ad f i) (h4 : f 4 = eT G 13 g) (hi1 : 1 ≤ i) (hi : i ≤ 12) (hz : ∀ z, z ≠ 4 → f1 z = f z) (e4 : f1 4 = eT G 13 (va_up g i (some (ad (tc i))))) (hT : TB G N ad f (tc i) 0 (fun _ => 0) (fun _ => 0)) : PA G N ad f1 (i + 1) := by
  obtain ⟨h0, ⟨g', h4', e4'⟩, h5, hTs⟩ := h
  have eg : g = g' := by rw [h4] at h4'; simpa using h4'
  subst eg
  have ap : ∀ j, j < i + 1 → 4 < tc j ∨ tc j + 2 < 4 := fun j hj => by have := tc_v (show j ≤ 12 by omega); omega
  refine ⟨(hz 0 (by decide)).trans h0, ⟨_, e4, fun j hj => ?_⟩, (hz 5 (by decide)).trans h5, fun j hj => ?_⟩
  · by_cases e : j = i
    · subst e; exact va_up_self ..
    · rw [va_up_ne _ _ e]; exact e4' j (by omega)
  · by_cases e : j = i
    · subst e; exact hT.gr1 hz (ap j hj)
    · exact (hTs j (by omega)).gr1 hz (ap j hj)
theorem PB.grow (h : PB G N ad f i) (hg : ov_gr N ad ad1 f f1) (h6 : 44 ≤ N) (hb : ∀ q, q < i → 48 + 4 * q ≤ N) (hN : N ≤ N') : PB G N' ad1 f1 i := by
  obtain ⟨h0, ⟨g, h4, e4⟩, h5, hT, ⟨g2, h42, e42⟩, h43, hT2, hC⟩ := h
  refine ⟨?_, ⟨g, ?_, fun j hj => ?_⟩, ?_, fun j hj => (hT j hj).grow hg hN, ⟨g2, ?_, fun q hq => ?_⟩, ?_, fun q hq => (hT2 q hq).grow hg hN, fun q hq => ?_⟩
  · rw [hg.2 0 (by omega), h0, hg.1 1 (by omega), hg.1 4 (by omega), hg.1 5 (by omega), hg.1 42 (by omega), hg.1 43 (by omega)]
  · rw [hg.2 4 (by omega), h4]
  · rw [e4 j hj, hg.1 _ (hT j hj).lt0]
  · rw [hg.2 5 (by omega), h5]
  · rw [hg.2 42 (by omega), h42]
  · have := hb q hq
    rw [e42 q hq, hg.1 _ (by omega)]
  · rw [hg.2 43 (by omega), h43]
  · have := hb q hq
    unfold CB; rw [hg.2 _ (by omega), hC q hq, hg.1 _ (by omega)]
theorem PB.add {g : Nat → Option Nat} (h : PB G N ad f i) (h42 : f 42 = eU G 8 g) (hi : i < 8) (hz : ∀ z, z ≠ 42 → f1 z = f z) (e42 : f1 42 = eU G 8 (va_up g i (some (ad (44 + 4 * i))))) (hT : TB G N ad f (45 + 4 * i) 0 (fun _ => 0) (fun _ => 0)) (hC : CB ad f (44 + 4 * i) false 0) : PB G N ad f1 (i + 1) := by
  obtain ⟨h0, h4, h5, hTs, ⟨g', h42', e42'⟩, h43, hT2, hC2⟩ := h
  have eg : g = g' := by rw [h42] at h42'; simpa using h42'
  subst eg
  refine ⟨(hz 0 (by decide)).trans h0, ?_, (hz 5 (by decide)).trans h5, fun j hj => (hTs j hj).gr1 hz (by have := tc_v (show j ≤ 12 by omega); omega), ⟨_, e42, fun q hq => ?_⟩, (hz 43 (by decide)).trans h43, fun q hq => ?_, fun q hq => ?_⟩
  · obtain ⟨g4, a, b⟩ := h4
    exact ⟨g4, (hz 4 (by decide)).trans a, b⟩
  · by_cases e : q = i
    · subst e; exact va_up_self ..
    · rw [va_up_ne _ _ e]; exact e42' q (by omega)
  · by_cases e : q = i
    · subst e; exact hT.gr1 hz (by omega)
    · exact (hT2 q (by omega)).gr1 hz (by omega)
  · by_cases e : q = i
    · subst e; exact (hz _ (by omega)).trans hC
    · exact (hz _ (by omega)).trans (hC2 q (by omega))
theorem PB.rx (h : PB G 84 ad f 8) : RX G ad f (va_up (fun _ => false) 0 true) (fun _ => 0) (fun _ _ => 0) (fun _ _ => 0) (fun _ => 0) (fun _ => false) := by
  obtain ⟨h0, h4, h5, hT, h42, h43, hT2, hC⟩ := h
  refine ⟨h0, h4, ⟨_, h5, fun j hj => ?_⟩, h42, ⟨_, h43, fun q hq => ?_⟩, fun j hj => ?_, hC⟩
  · simp only [upd, va_up]; split <;> rfl
  · rw [va_up_ne _ _ (by omega)]; rfl
  · by_cases e : j < 13
    · exact hT j e
    · obtain ⟨q, rfl⟩ : ∃ q, j = 13 + q := ⟨j - 13, by omega⟩
      rw [tc_c]; exact hT2 q (by omega)
end OVCP

section OVO
/-- taking over, under way: a of the own keys and c of the other's are left, the tail from b on stands -/
def TO (n : Nat) (k v : Nat → Int32) (n2 : Nat) (k2 v2 : Nat → Int32) (q a b c : Nat) (kk vv : Nat → Int32) : Prop :=
  a ≤ n ∧ c ≤ n2 ∧ b = a + cnt c (fun j => !hs n k (k2 j)) ∧ b ≤ n + q ∧ (∀ i, i < a → kk i = k i ∧ vv i = v i) ∧ (∀ i, a ≤ i → i < n → ∀ j, j < c → k2 j < k i) ∧
  (∀ i j, b ≤ i → i < j → j < n + q → kk i < kk j) ∧ (∀ i, b ≤ i → i < n + q → (∀ j, j < a → k j < kk i) ∧ (∀ j, j < c → k2 j < kk i)) ∧
  (∀ x y, (∃ i, b ≤ i ∧ i < n + q ∧ kk i = x ∧ vv i = y) ↔ (∃ i, a ≤ i ∧ i < n ∧ k i = x ∧ v i = y) ∨ (∃ j, c ≤ j ∧ j < n2 ∧ hs n k (k2 j) = false ∧ k2 j = x ∧ v2 j = y))
variable {n : Nat} {k v : Nat → Int32} {n2 : Nat} {k2 v2 : Nat → Int32} {q a b c : Nat} {kk vv : Nat → Int32}
theorem TO_start (hq : q = cnt n2 (fun j => !hs n k (k2 j))) : TO n k v n2 k2 v2 q n (n + q) n2 k v := by
  refine ⟨Nat.le_refl _, Nat.le_refl _, by rw [hq], Nat.le_refl _, fun i _ => ⟨rfl, rfl⟩, fun i h1 h2 => absurd h2 (by omega), fun i j h1 h2 h3 => absurd h3 (by omega), fun i h1 h2 => absurd h2 (by omega), fun x y => ⟨?_, ?_⟩⟩
  · rintro ⟨i, h1, h2, _⟩; exact absurd h2 (by omega)
  · rintro (⟨i, h1, h2, _⟩ | ⟨i, h1, h2, _⟩) <;> exact absurd h2 (by omega)
/-- one place of the tail is written: what holds of it is what held, and the new one -/
theorem TO_tail {x y : Int32} (h1 : ∀ i j, b + 1 ≤ i → i < j → j < n + q → kk i < kk j) (h2 : ∀ i, b + 1 ≤ i → i < n + q → x < kk i) (hb : b < n + q) :
    (∀ i j, b ≤ i → i < j → j < n + q → upd kk b x i < upd kk b x j) ∧ ∀ u w, (∃ i, b ≤ i ∧ i < n + q ∧ upd kk b x i = u ∧ upd vv b y i = w) ↔ (x = u ∧ y = w) ∨ ∃ i, b + 1 ≤ i ∧ i < n + q ∧ kk i = u ∧ vv i = w := by
  refine ⟨fun i j hi hj hn => ?_, fun u w => ⟨?_, ?_⟩⟩
  · simp only [upd]
    rw [if_neg (show ¬ j = b by omega)]
    by_cases e : i = b
    · rw [if_pos e]; exact h2 j (by omega) hn
    · rw [if_neg e]; exact h1 i j (by omega) hj hn
  · rintro ⟨i, hi, hn, e1, e2⟩
    simp only [upd] at e1 e2
    by_cases e : i = b
    · rw [if_pos e] at e1 e2; exact Or.inl ⟨e1, e2⟩
    · rw [if_neg e] at e1 e2; exact Or.inr ⟨i, by omega, hn, e1, e2⟩
  · rintro (⟨e1, e2⟩ | ⟨i, hi, hn, e1, e2⟩)
    · exact ⟨b, Nat.le_refl _, hb, by simp [upd, e1], by simp [upd, e2]⟩
    · refine ⟨i, by omega, hn, ?_, ?_⟩ <;> simp only [upd] <;> rw [if_neg (show ¬ i = b by omega)] <;> assumption
theorem TO_move (hSk : Srt n k) (hS2 : Srt n2 k2) (h : TO n k v n2 k2 v2 q (a + 1) (b + 1) (c + 1) kk vv) (hgt : k2 c < kk a) : TO n k v n2 k2 v2 q a b (c + 1) (upd kk b (kk a)) (upd vv b (vv a)) := by
  obtain ⟨h1, h2, h3, h4, h5, h6, h7, h8, h9⟩ := h
  have ea := h5 a (by omega)
  have gt : k2 c < k a := by rw [← ea.1]; exact hgt
  obtain ⟨t1, t2⟩ := TO_tail (b := b) (x := kk a) (y := vv a) (kk := kk) (vv := vv) h7 (fun i hi hn => by rw [ea.1]; exact (h8 i hi hn).1 a (by omega)) (by omega)
  refine ⟨by omega, h2, by omega, by omega, fun i hi => ?_, fun i hi hn j hj => ?_, t1, fun i hi hn => ?_, fun x y => ?_⟩
  · simp only [upd]; rw [if_neg (by omega), if_neg (by omega)]; exact h5 i (by omega)
  · by_cases e : i = a
    · subst e
      by_cases e2 : j = c
      · subst e2; exact gt
      · exact i32_tr (hS2 j c (by omega) (by omega)) gt
    · exact h6 i (by omega) hn j hj
  · simp only [upd]
    by_cases e : i = b
    · rw [if_pos e, ea.1]
      refine ⟨fun j hj => hSk j a hj (by omega), fun j hj => ?_⟩
      by_cases e2 : j = c
      · subst e2; exact gt
      · exact i32_tr (hS2 j c (by omega) (by omega)) gt
    · rw [if_neg e]
      have z := h8 i (by omega) hn
      exact ⟨fun j hj => z.1 j (by omega), z.2⟩
  · rw [t2 x y, h9 x y]
    constructor
    · rintro (⟨e1, e2⟩ | ⟨i, g1, g2, g3, g4⟩ | g)
      · exact Or.inl ⟨a, Nat.le_refl _, by omega, by rw [← ea.1]; exact e1, by rw [← ea.2]; exact e2⟩
      · exact Or.inl ⟨i, by omega, g2, g3, g4⟩
      · exact Or.inr g
    · rintro (⟨i, g1, g2, g3, g4⟩ | g)
      · by_cases e : i = a
        · subst e; exact Or.inl ⟨by rw [ea.1]; exact g3, by rw [ea.2]; exact g4⟩
        · exact Or.inr (Or.inl ⟨i, by omega, g2, g3, g4⟩)
      · exact Or.inr (Or.inr g)
theorem TO_has (h : TO n k v n2 k2 v2 q a b (c + 1) kk vv) (hh : hs n k (k2 c) = true) : TO n k v n2 k2 v2 q a b c kk vv := by
  obtain ⟨h1, h2, h3, h4, h5, h6, h7, h8, h9⟩ := h
  refine ⟨h1, by omega, by rw [h3, cnt_f (by simp [hh])], h4, h5, fun i g1 g2 j g3 => h6 i g1 g2 j (by omega), h7, fun i g1 g2 => ⟨(h8 i g1 g2).1, fun j g3 => (h8 i g1 g2).2 j (by omega)⟩, fun x y => ?_⟩
  rw [h9 x y]
  constructor
  · rintro (g | ⟨j, g1, g2, g3⟩)
    · exact Or.inl g
    · exact Or.inr ⟨j, by omega, g2, g3⟩
  · rintro (g | ⟨j, g1, g2, g3, g4⟩)
    · exact Or.inl g
    · by_cases e : j = c
      · subst e; rw [hh] at g3; cases g3
      · exact Or.inr ⟨j, by omega, g2, g3, g4⟩
theorem TO_put (hS2 : Srt n2 k2) (h : TO n k v n2 k2 v2 q a (b + 1) (c + 1) kk vv) (hh : hs n k (k2 c) = false) (hlt : ∀ j, j < a → k j < k2 c) : TO n k v n2 k2 v2 q a b c (upd kk b (k2 c)) (upd vv b (v2 c)) := by
  obtain ⟨h1, h2, h3, h4, h5, h6, h7, h8, h9⟩ := h
  rw [cnt_t (by simp [hh])] at h3
  obtain ⟨t1, t2⟩ := TO_tail (b := b) (x := k2 c) (y := v2 c) (kk := kk) (vv := vv) h7 (fun i hi hn => (h8 i hi hn).2 c (by omega)) (by omega)
  refine ⟨h1, by omega, by omega, by omega, fun i hi => ?_, fun i g1 g2 j g3 => h6 i g1 g2 j (by omega), t1, fun i hi hn => ?_, fun x y => ?_⟩
  · simp only [upd]; rw [if_neg (by omega), if_neg (by omega)]; exact h5 i hi
  · simp only [upd]
    by_cases e : i = b
    · rw [if_pos e]; exact ⟨hlt, fun j hj => hS2 j c hj (by omega)⟩
    · rw [if_neg e]
      have z := h8 i (by omega) hn
      exact ⟨z.1, fun j hj => z.2 j (by omega)⟩
  · rw [t2 x y, h9 x y]
    constructor
    · rintro (⟨e1, e2⟩ | g | ⟨j, g1, g2, g3⟩)
      · exact Or.inr ⟨c, Nat.le_refl _, by omega, hh, e1, e2⟩
      · exact Or.inl g
      · exact Or.inr ⟨j, by omega, g2, g3⟩
    · rintro (g | ⟨j, g1, g2, g3, g4, g5⟩)
      · exact Or.inr (Or.inl g)
      · by_cases e : j = c
        · subst e; exact Or.inl ⟨g4, g5⟩
        · exact Or.inr (Or.inr ⟨j, by omega, g2, g3, g4, g5⟩)
theorem TO_end (hSk : Srt n k) (h : TO n k v n2 k2 v2 q a b 0 kk vv) : Srt (n + q) kk ∧ ∀ x y, Has (n + q) kk vv x y ↔ Has n k v x y ∨ (hs n k x = false ∧ Has n2 k2 v2 x y) := by
  obtain ⟨h1, h2, h3, h4, h5, h6, h7, h8, h9⟩ := h
  have e : b = a := by rw [h3]; rfl
  subst e
  refine ⟨fun i j hi hj => ?_, fun x y => ⟨?_, ?_⟩⟩
  · by_cases g1 : j < b
    · rw [(h5 i (by omega)).1, (h5 j g1).1]; exact hSk i j hi (by omega)
    · by_cases g2 : i < b
      · rw [(h5 i g2).1]; exact (h8 j (by omega) hj).1 i g2
      · exact h7 i j (by omega) hi hj
  · rintro ⟨i, hi, e1, e2⟩
    by_cases g : i < b
    · exact Or.inl ⟨i, by omega, by rw [← (h5 i g).1]; exact e1, by rw [← (h5 i g).2]; exact e2⟩
    · rcases (h9 x y).mp ⟨i, by omega, hi, e1, e2⟩ with ⟨j, g1, g2, g3, g4⟩ | ⟨j, g1, g2, g3, g4, g5⟩
      · exact Or.inl ⟨j, g2, g3, g4⟩
      · exact Or.inr ⟨by rw [← g4]; exact g3, j, g2, g4, g5⟩
  · rintro (⟨i, hi, e1, e2⟩ | ⟨g, j, hj, e1, e2⟩)
    · by_cases g : i < b
      · exact ⟨i, by omega, by rw [(h5 i g).1]; exact e1, by rw [(h5 i g).2]; exact e2⟩
      · obtain ⟨z, g1, g2, g3⟩ := (h9 x y).mpr (Or.inl ⟨i, by omega, hi, e1, e2⟩)
        exact ⟨z, g2, g3⟩
    · obtain ⟨z, g1, g2, g3⟩ := (h9 x y).mpr (Or.inr ⟨j, Nat.zero_le _, hj, by rw [e1]; exact g, e1, e2⟩)
      exact ⟨z, g2, g3⟩
theorem srt_gt (hSk : Srt n k) (h : ¬ k a ≤ k c) (h1 : a < n) (h2 : c < n) : c < a := by
  refine Nat.lt_of_not_le fun h3 => h ?_
  rcases Nat.lt_or_eq_of_le h3 with h4 | h4
  · have := hSk a c h4 h2
    rw [i32_lt] at this; rw [i32_le]; omega
  · rw [h4, i32_le]; exact Int.le_refl _
/-- the key is not among the own: the own keys that are left are below it -/
theorem TO_no (hSk : Srt n k) (h : TO n k v n2 k2 v2 q a b (c + 1) kk vv) (hlt : ∀ j, j < a → k j < k2 c) : hs n k (k2 c) = false := by
  refine hs_false hSk fun i hi e => ?_
  by_cases g : i < a
  · have := hlt i g; rw [e] at this; exact i32_irr _ this
  · have := h.2.2.2.2.2.1 i (by omega) hi c (by omega); rw [e] at this; exact i32_irr _ this
theorem TO_lt (hSk : Srt n k) (h : TO n k v n2 k2 v2 q (a + 1) b (c + 1) kk vv) (hle : kk a ≤ k2 c) (hn : ha n kk (nI a) (k2 c) = false) (h600 : n ≤ 600) : ∀ j, j < a + 1 → k j < k2 c := by
  have ea := (h.2.2.2.2.1 a (by omega)).1
  have h1 := h.1
  rw [ha_nI (by omega)] at hn
  have ne : kk a ≠ k2 c := fun q9 => absurd (show a < n ∧ kk a = k2 c from ⟨by omega, q9⟩) (of_decide_eq_false hn)
  have lt : k a < k2 c := by rw [← ea]; exact i32_le_ne hle ne
  intro j hj
  by_cases e : j = a
  · subst e; exact lt
  · exact i32_tr (hSk j a (by omega) (by omega)) lt
theorem TO_yes (hSk : Srt n k) (h : TO n k v n2 k2 v2 q a b (c + 1) kk vv) {ix : Int32} (hn : ha n kk ix (k2 c) = true) (hix : ix = pI a) (h600 : n ≤ 600) : hs n k (k2 c) = true := by
  subst hix
  simp only [ha, decide_eq_true_eq] at hn
  obtain ⟨g1, g2, g3⟩ := hn
  have ha := h.1
  rw [pI_toInt (by omega)] at g1 g2 g3
  obtain ⟨z, rfl⟩ : ∃ z, a = z + 1 := ⟨a - 1, by omega⟩
  rw [show ((z + 1 : Nat) : Int) - 1 = (z : Int) by omega] at g3
  have ea := (h.2.2.2.2.1 z (by omega)).1
  refine (hs_iff hSk _).mpr ⟨z, by omega, ?_⟩
  rw [← ea]; simpa using g3
end OVO

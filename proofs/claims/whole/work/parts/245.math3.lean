section OVM3
theorem of_0 (K : Nat → Int32) : of K 0 = K := by funext i; simp [of]
theorem cnt_mono {n m : Nat} {p : Nat → Bool} (h : n ≤ m) : cnt n p ≤ cnt m p := by
  induction m with
  | zero => rw [Nat.le_zero.mp h]; exact Nat.le_refl _
  | succ m ih =>
    rcases Nat.lt_or_eq_of_le h with g | g
    · have := ih (by omega); simp only [cnt]; omega
    · rw [g]; exact Nat.le_refl _
theorem cnt_self {n : Nat} {k : Nat → Int32} (hS : Srt n k) : cnt n (fun z => !hs n k (k z)) = 0 := by
  have h : ∀ m, m ≤ n → cnt m (fun z => !hs n k (k z)) = 0 := by
    intro m
    induction m with
    | zero => intro _; rfl
    | succ m ih => intro hm; rw [cnt_f (by simp [(hs_iff hS (k m)).mpr ⟨m, by omega, rfl⟩])]; exact ih (by omega)
  exact h n (Nat.le_refl _)
theorem mg_eq {s : Nat} {kk vv k2 v2 : Nat → Int32} {x y : Int32} (h : ∀ z, z < s + 1 → k2 z = insF kk (bel s (of kk 0) x) x z ∧ v2 z = insF vv (bel s (of kk 0) x) y z) : ∀ z, z < s + 1 → insF (of kk 0) (bel s (of kk 0) x) x z = of k2 0 z ∧ insF (of vv 0) (bel s (of kk 0) x) y z = of v2 0 z := by
  intro z hz
  have := h z hz
  rw [of_0] at *
  rw [of_0, of_0, of_0]
  exact ⟨this.1.symm, this.2.symm⟩
end OVM3

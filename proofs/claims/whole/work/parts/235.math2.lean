section OVM2
/-- where a cursor may stand: downward -1 .. n-1, upward 0 .. n -/
def WCp (d : Bool) (p : Int) (n : Nat) : Prop := if d = true then -1 ≤ p ∧ p < n else 0 ≤ p ∧ p ≤ n
theorem WC_b {d : Bool} {p : Int} {n : Nat} (h : WCp d p n) : -1 ≤ p ∧ p ≤ n := by
  unfold WCp at h; split at h <;> omega
def ate (p : Int) (n : Nat) : Bool := decide (p < 0 ∨ (n : Int) ≤ p)
theorem ate_f {p : Int} {n : Nat} (h : ate p n = false) : 0 ≤ p ∧ p < n := by
  have := of_decide_eq_false h; omega
theorem zI_lt0 {p : Int} (h1 : -1 ≤ p) (h2 : p ≤ 600) : zI p < 0 ↔ p < 0 := by
  rw [i32_lt, zI_toInt (by omega) (by omega), Int32.toInt_zero]
theorem zI_ltn {p : Int} {n : Nat} (h1 : -1 ≤ p) (h2 : p ≤ 600) (h3 : n ≤ 600) : zI p < nI n ↔ p < n := by
  rw [i32_lt, zI_toInt (by omega) (by omega), nI_toInt (by omega)]
theorem zI_p1 (p : Int) : zI p + nI 1 = zI (p + 1) := zI_add p 1
theorem zI_m1 (p : Int) : zI p + (-1) = zI (p - 1) := by
  have h : (-1 : Int32) = zI (-1) := by decide
  rw [h, zI_add]; rfl
theorem zI_toNat {p : Int} (h : 0 ≤ p) : zI p = nI p.toNat := by
  rw [← zI_nat, Int.toNat_of_nonneg h]
def gon (d : Bool) (p : Int) : Int := if d = true then p - 1 else p + 1
def stp (d : Bool) (p : Int) (i : Nat) : Int := if d = true then p - i else p + i
def lft (d : Bool) (p : Int) (n : Nat) : Nat := if d = true then (p + 1).toNat else ((n : Int) - p).toNat
theorem stp_0 (d : Bool) (p : Int) : p = stp d p 0 := by unfold stp; split <;> simp
theorem stp_s {d : Bool} {p q : Int} {i : Nat} (h : q = stp d p i) : gon d q = stp d p (i + 1) := by
  subst h; unfold gon stp; cases d <;> simp <;> omega
theorem stp_b {d : Bool} {p q : Int} {i n : Nat} (hw : WCp d p n) (h : q = stp d p i) (hi : i ≤ lft d p n) : -1 ≤ q ∧ q ≤ n := by
  subst h; unfold WCp at hw; unfold lft at hi; unfold stp
  cases d <;> simp at * <;> omega
theorem stp_f {d : Bool} {p q : Int} {i n : Nat} (hw : WCp d p n) (h : q = stp d p i) (hi : i ≤ lft d p n) (ha : ate q n = false) : i + 1 ≤ lft d p n := by
  have := ate_f ha
  subst h; unfold WCp at hw; unfold lft at *; unfold stp at this
  cases d <;> simp at * <;> omega
theorem stp_t {d : Bool} {p q : Int} {i n : Nat} (hw : WCp d p n) (h : q = stp d p i) (hi : i ≤ lft d p n) (ha : ate q n = true) : i = lft d p n := by
  have := of_decide_eq_true ha
  subst h; unfold WCp at hw; unfold lft at *; unfold stp at this
  cases d <;> simp at * <;> omega
theorem up_id {α : Type} (h : Nat → α) (k : Nat) : va_up h k (h k) = h := by
  funext j; simp only [va_up]; split
  · rename_i e; rw [e]
  · rfl
theorem n_ge0 {n : Int32} (h : 0 ≤ n) : ∃ w, w < 2 ^ 31 ∧ n = nI w := by
  rw [i32_le, Int32.toInt_zero] at h
  have h2 := Int32.toInt_lt n
  exact ⟨n.toInt.toNat, by omega, nI_of_toInt (by omega) (by omega)⟩
/-- what a load asks for -/
def gld (first step n : Int32) : Bool := decide (0 ≤ n.toInt ∧ n.toInt ≤ 600 ∧ 1 ≤ step.toInt ∧ first.toInt + (n.toInt - 1) * step.toInt ≤ 2147483647)
theorem i64_lt (a b : Int64) : a < b ↔ a.toInt < b.toInt := Int64.lt_iff_toInt_lt
theorem l_mul {w : Nat} {s : Int32} (hw : w ≤ 600) (h1 : 1 ≤ w) : -1318554959872 ≤ ((w : Int) - 1) * s.toInt ∧ ((w : Int) - 1) * s.toInt ≤ 1318554959872 := by
  have a1 := Int32.le_toInt s
  have a2 := Int32.toInt_lt s
  have e : (0 : Int) ≤ (w : Int) - 1 := by omega
  have e2 : (w : Int) - 1 ≤ 599 := by omega
  constructor
  · calc (-1318554959872 : Int) ≤ 599 * (-2147483648) := by decide
      _ ≤ ((w : Int) - 1) * (-2147483648) := by omega
      _ ≤ ((w : Int) - 1) * s.toInt := Int.mul_le_mul_of_nonneg_left (by omega) e
  · calc ((w : Int) - 1) * s.toInt ≤ ((w : Int) - 1) * 2147483648 := Int.mul_le_mul_of_nonneg_left (by omega) e
      _ ≤ 599 * 2147483648 := by omega
      _ ≤ 1318554959872 := by decide
theorem i64_of {x : Int64} {z : Int} (h : x = Int64.ofInt z) (h1 : -9223372036854775808 ≤ z) (h2 : z < 9223372036854775808) : x.toInt = z := by
  subst h; rw [Int64.toInt_ofInt, show Int64.size = 18446744073709551616 from rfl]; exact Int.bmod_eq_of_le (by omega) (by omega)
theorem i64_32 (x : Int32) : x.toInt64 = Int64.ofInt x.toInt := by
  apply Int64.toInt_inj.mp
  have a1 := Int32.le_toInt x
  have a2 := Int32.toInt_lt x
  rw [i64_of rfl (by omega) (by omega)]; exact Int32.toInt_toInt64 x
theorem ld_m {first step : Int32} {w : Nat} (hw : w ≤ 600) (h1 : 1 ≤ w) : (first.toInt64 + (((nI w).toInt64 - lN 1) * step.toInt64)).toInt = first.toInt + ((w : Int) - 1) * step.toInt := by
  have b := l_mul (s := step) hw h1
  have a1 := Int32.le_toInt first
  have a2 := Int32.toInt_lt first
  refine i64_of ?_ (by omega) (by omega)
  rw [i64_32 first, i64_32 step, i64_32 (nI w), nI_toInt (by omega), show lN 1 = Int64.ofInt 1 from rfl, ← Int64.ofInt_sub, ← Int64.ofInt_mul, ← Int64.ofInt_add]
theorem ld_t {first step : Int32} {w : Nat} (hw : w ≤ 600) (hs : ¬ step < nI 1) (h : w = 0 ∨ ¬ (2147483647 : Int64) < first.toInt64 + (((nI w).toInt64 - lN 1) * step.toInt64)) : gld first step (nI w) = true := by
  rw [i32_lt, nI_toInt (by decide)] at hs
  simp only [gld, decide_eq_true_eq]
  rw [nI_toInt (by omega)]
  refine ⟨by omega, by omega, by omega, ?_⟩
  have a2 := Int32.toInt_lt first
  by_cases e : w = 0
  · subst e; simp; omega
  · rcases h with h | h
    · exact absurd h e
    · rw [i64_lt, ld_m hw (by omega)] at h
      have : (2147483647 : Int64).toInt = 2147483647 := by decide
      omega
theorem ld_f1 {first step n : Int32} (h : n < 0) : gld first step n = false := by
  rw [i32_lt, Int32.toInt_zero] at h
  simp only [gld, decide_eq_false_iff_not]; omega
theorem ld_f2 {first step n : Int32} (h : nI 600 < n) : gld first step n = false := by
  rw [i32_lt, nI_toInt (by decide)] at h
  simp only [gld, decide_eq_false_iff_not]; omega
theorem ld_f3 {first step n : Int32} (h : step < nI 1) : gld first step n = false := by
  rw [i32_lt, nI_toInt (by decide)] at h
  simp only [gld, decide_eq_false_iff_not]; omega
theorem ld_f4 {first step : Int32} {w : Nat} (hw : w ≤ 600) (h0 : w ≠ 0) (h : (2147483647 : Int64) < first.toInt64 + (((nI w).toInt64 - lN 1) * step.toInt64)) : gld first step (nI w) = false := by
  rw [i64_lt, ld_m hw (by omega)] at h
  have : (2147483647 : Int64).toInt = 2147483647 := by decide
  simp only [gld, decide_eq_false_iff_not]
  rw [nI_toInt (by omega)]
  rintro ⟨_, _, _, q⟩
  omega
/-! putting a key in keeps the order; what is there then -/
theorem bel_lt {n : Nat} {k : Nat → Int32} {x : Int32} {j : Nat} (h : j < bel n k x) : k j < x := (bel_ok n k x).2.1 j h
theorem bel_gt {n : Nat} {k : Nat → Int32} {x : Int32} (hS : Srt n k) (hh : hs n k x = false) {j : Nat} (h : bel n k x ≤ j) (hj : j < n) : x < k j := by
  have a := (bel_ok n k x).2.2 (by omega)
  have b : k (bel n k x) ≠ x := fun q => by
    have := of_decide_eq_false hh
    exact this ⟨by omega, q⟩
  have c : x < k (bel n k x) := i32_le_ne (i32_of_nlt a) (fun q => b q.symm)
  rcases Nat.lt_or_eq_of_le h with g | g
  · exact i32_tr c (hS _ j g hj)
  · rw [← g]; exact c
theorem ins_srt {n : Nat} {k : Nat → Int32} {x : Int32} (hS : Srt n k) (hh : hs n k x = false) : Srt (n + 1) (insF k (bel n k x) x) := by
  have hb := bel_le n k x
  intro i j hij hj
  simp only [insF]
  by_cases a1 : j < bel n k x
  · rw [if_pos (show i < bel n k x by omega), if_pos a1]; exact hS i j hij (by omega)
  · rw [if_neg a1]
    by_cases a2 : j = bel n k x
    · rw [if_pos a2, if_pos (by omega)]; exact bel_lt (n := n) (by omega)
    · rw [if_neg a2]
      by_cases b1 : i < bel n k x
      · rw [if_pos b1]; exact i32_tr (bel_lt b1) (bel_gt hS hh (by omega) (by omega))
      · rw [if_neg b1]
        by_cases b2 : i = bel n k x
        · rw [if_pos b2]; exact bel_gt hS hh (by omega) (by omega)
        · rw [if_neg b2]; exact hS _ _ (by omega) (by omega)
theorem ins_has {n a : Nat} {k v : Nat → Int32} {x y : Int32} (ha : a ≤ n) (u w : Int32) : Has (n + 1) (insF k a x) (insF v a y) u w ↔ Has n k v u w ∨ (x = u ∧ y = w) := by
  constructor
  · rintro ⟨i, hi, e1, e2⟩
    simp only [insF] at e1 e2
    by_cases a1 : i < a
    · rw [if_pos a1] at e1 e2; exact Or.inl ⟨i, by omega, e1, e2⟩
    · rw [if_neg a1] at e1 e2
      by_cases a2 : i = a
      · rw [if_pos a2] at e1 e2; exact Or.inr ⟨e1, e2⟩
      · rw [if_neg a2] at e1 e2; exact Or.inl ⟨i - 1, by omega, e1, e2⟩
  · rintro (⟨i, hi, e1, e2⟩ | ⟨e1, e2⟩)
    · by_cases a1 : i < a
      · exact ⟨i, by omega, by simp only [insF]; rw [if_pos a1]; exact e1, by simp only [insF]; rw [if_pos a1]; exact e2⟩
      · refine ⟨i + 1, by omega, ?_, ?_⟩ <;> (simp only [insF]; rw [if_neg (by omega), if_neg (by omega)]; assumption)
    · exact ⟨a, by omega, by simp [insF, e1], by simp [insF, e2]⟩
theorem Has_congr {n : Nat} {k v k2 v2 : Nat → Int32} (h : ∀ i, i < n → k i = k2 i ∧ v i = v2 i) (x y : Int32) : Has n k v x y ↔ Has n k2 v2 x y := by
  constructor
  · rintro ⟨i, hi, e1, e2⟩; exact ⟨i, hi, by rw [← (h i hi).1]; exact e1, by rw [← (h i hi).2]; exact e2⟩
  · rintro ⟨i, hi, e1, e2⟩; exact ⟨i, hi, by rw [(h i hi).1]; exact e1, by rw [(h i hi).2]; exact e2⟩
theorem Srt_congr {n : Nat} {k k2 : Nat → Int32} (h : ∀ i, i < n → k i = k2 i) (hS : Srt n k) : Srt n k2 := fun i j h1 h2 => by
  rw [← h i (by omega), ← h j h2]; exact hS i j h1 h2
/-- the reference's merge, under way: i of the other's keys are looked at -/
def MG9 (n : Nat) (k v : Nat → Int32) (k2 v2 : Nat → Int32) (i s : Nat) (kk vv : Nat → Int32) : Prop :=
  s = n + cnt i (fun z => !hs n k (k2 z)) ∧ Srt s kk ∧ ∀ x y, Has s kk vv x y ↔ Has n k v x y ∨ ∃ z, z < i ∧ hs n k (k2 z) = false ∧ k2 z = x ∧ v2 z = y
theorem MG9_0 {n : Nat} {k v k2 v2 : Nat → Int32} (hS : Srt n k) : MG9 n k v k2 v2 0 n k v :=
  ⟨rfl, hS, fun x y => ⟨Or.inl, fun h => h.elim id (fun ⟨z, h, _⟩ => absurd h (Nat.not_lt_zero _))⟩⟩
theorem hs_has {n : Nat} {k v : Nat → Int32} (hS : Srt n k) (x : Int32) : hs n k x = true ↔ ∃ y, Has n k v x y := by
  rw [hs_iff hS]
  exact ⟨fun ⟨i, h1, h2⟩ => ⟨v i, i, h1, h2, rfl⟩, fun ⟨y, i, h1, h2, _⟩ => ⟨i, h1, h2⟩⟩
/-- a key of the other that comes next is there just if it was there at the start -/
theorem MG9_h {n n2 : Nat} {k v k2 v2 kk vv : Nat → Int32} {i s : Nat} (hS : Srt n k) (hS2 : Srt n2 k2) (hi : i < n2) (h : MG9 n k v k2 v2 i s kk vv) : hs s kk (k2 i) = hs n k (k2 i) := by
  obtain ⟨h1, h2, h3⟩ := h
  have e : hs s kk (k2 i) = true ↔ hs n k (k2 i) = true := by
    rw [hs_has (v := vv) h2, hs_has (v := v) hS]
    constructor
    · rintro ⟨y, g⟩
      rcases (h3 _ _).mp g with g | ⟨z, g1, _, g3, _⟩
      · exact ⟨y, g⟩
      · have := hS2 z i g1 hi; rw [g3] at this; exact absurd this (i32_irr _)
    · rintro ⟨y, g⟩; exact ⟨y, (h3 _ _).mpr (Or.inl g)⟩
  cases a : hs s kk (k2 i) <;> cases b : hs n k (k2 i) <;> simp [a, b] at e <;> rfl
theorem MG9_t {n : Nat} {k v k2 v2 kk vv : Nat → Int32} {i s : Nat} (h : MG9 n k v k2 v2 i s kk vv) (hh : hs n k (k2 i) = true) : MG9 n k v k2 v2 (i + 1) s kk vv := by
  obtain ⟨h1, h2, h3⟩ := h
  refine ⟨by rw [cnt_f (by simp [hh])]; exact h1, h2, fun x y => ?_⟩
  rw [h3]
  constructor
  · rintro (g | ⟨z, g1, g⟩)
    · exact Or.inl g
    · exact Or.inr ⟨z, by omega, g⟩
  · rintro (g | ⟨z, g1, g2, g⟩)
    · exact Or.inl g
    · by_cases e : z = i
      · subst e; rw [hh] at g2; cases g2
      · exact Or.inr ⟨z, by omega, g2, g⟩
theorem MG9_f {n : Nat} {k v k2 v2 kk vv : Nat → Int32} {i s : Nat} (h : MG9 n k v k2 v2 i s kk vv) (hh : hs n k (k2 i) = false) (hc : hs s kk (k2 i) = false) : MG9 n k v k2 v2 (i + 1) (s + 1) (insF kk (bel s kk (k2 i)) (k2 i)) (insF vv (bel s kk (k2 i)) (v2 i)) := by
  obtain ⟨h1, h2, h3⟩ := h
  refine ⟨by rw [cnt_t (by simp [hh]), h1]; omega, ins_srt h2 hc, fun x y => ?_⟩
  rw [ins_has (bel_le _ _ _), h3]
  constructor
  · rintro ((g | ⟨z, g1, g⟩) | ⟨g1, g2⟩)
    · exact Or.inl g
    · exact Or.inr ⟨z, by omega, g⟩
    · exact Or.inr ⟨i, by omega, hh, g1, g2⟩
  · rintro (g | ⟨z, g1, g2, g3, g4⟩)
    · exact Or.inl (Or.inl g)
    · by_cases e : z = i
      · subst e; exact Or.inr ⟨g3, g4⟩
      · exact Or.inl (Or.inr ⟨z, by omega, g2, g3, g4⟩)
theorem MG9_c {n : Nat} {k v k2 v2 kk vv k3 v3 : Nat → Int32} {i s : Nat} (h : MG9 n k v k2 v2 i s kk vv) (e : ∀ z, z < s → kk z = k3 z ∧ vv z = v3 z) : MG9 n k v k2 v2 i s k3 v3 :=
  ⟨h.1, Srt_congr (fun z hz => (e z hz).1) h.2.1, fun x y => by rw [← Has_congr e]; exact h.2.2 x y⟩
theorem MG9_e {n n2 : Nat} {k v k2 v2 kk vv : Nat → Int32} {s : Nat} (h : MG9 n k v k2 v2 n2 s kk vv) (x y : Int32) : Has s kk vv x y ↔ Has n k v x y ∨ (hs n k x = false ∧ Has n2 k2 v2 x y) := by
  rw [h.2.2]
  constructor
  · rintro (g | ⟨z, g1, g2, g3, g4⟩)
    · exact Or.inl g
    · exact Or.inr ⟨by rw [← g3]; exact g2, z, g1, g3, g4⟩
  · rintro (g | ⟨g2, z, g1, g3, g4⟩)
    · exact Or.inl g
    · exact Or.inr ⟨z, g1, by rw [g3]; exact g2, g3, g4⟩
/-- nothing is missing: nothing comes -/
theorem MG9_z {n n2 : Nat} {k v k2 v2 : Nat → Int32} (h : cnt n2 (fun z => !hs n k (k2 z)) = 0) (x y : Int32) : Has n k v x y ↔ Has n k v x y ∨ (hs n k x = false ∧ Has n2 k2 v2 x y) := by
  refine ⟨Or.inl, fun g => g.elim id ?_⟩
  rintro ⟨g1, z, g2, g3, g4⟩
  have q : ∀ m, m ≤ n2 → cnt m (fun z => !hs n k (k2 z)) = 0 → ∀ z, z < m → hs n k (k2 z) = true := by
    intro m
    induction m with
    | zero => intro _ _ z hz; exact absurd hz (Nat.not_lt_zero _)
    | succ m ih =>
      intro hm hc z hz
      have ht : hs n k (k2 m) = true := by
        cases b : hs n k (k2 m) with
        | true => rfl
        | false => rw [cnt_t (by simp [b])] at hc; omega
      rw [cnt_f (by simp [ht])] at hc
      by_cases e : z = m
      · subst e; exact ht
      · exact ih (by omega) hc z (by omega)
  have := q n2 (Nat.le_refl _) h z g2
  rw [g3, g1] at this
  cases this
end OVM2

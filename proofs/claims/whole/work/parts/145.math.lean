section OVM
def insF (k : Nat → Int32) (a : Nat) (x : Int32) : Nat → Int32 := fun i => if i < a then k i else if i = a then x else k (i - 1)
def delF (k : Nat → Int32) (a d : Nat) : Nat → Int32 := fun i => if i < a then k i else k (i + d)
theorem ins_cpy {k : Nat → Int32} {a n : Nat} {x : Int32} (ha : a ≤ n) {i : Nat} (hi : i < n + 1) : upd (va_cpy k k a (a + 1) (n - a)) a x i = insF k a x i := by
  simp only [upd, va_cpy, insF]
  by_cases h1 : i = a
  · rw [if_pos h1, if_neg (by omega), if_pos h1]
  · rw [if_neg h1]
    by_cases h2 : i < a
    · rw [if_neg (by omega), if_pos h2]
    · rw [if_pos (by omega), if_neg h2, if_neg h1]; congr 1; omega
theorem del_cpy {k : Nat → Int32} {a b n : Nat} (h1 : a ≤ b) (h2 : b ≤ n) {i : Nat} (hi : i < n - (b - a)) : va_cpy k k b a (n - b) i = delF k a (b - a) i := by
  simp only [va_cpy, delF]
  by_cases h : i < a
  · rw [if_neg (by omega), if_pos h]
  · rw [if_pos (by omega), if_neg h]; congr 1; omega
theorem cpy_0 {k k2 : Nat → Int32} {n i : Nat} (hi : i < n) : va_cpy k2 k 0 0 n i = k2 i := by
  simp only [va_cpy]
  rw [if_pos (by omega)]; congr 1; omega
def Srt (n : Nat) (k : Nat → Int32) : Prop := ∀ i j : Nat, i < j → j < n → k i < k j
def cnt : Nat → (Nat → Bool) → Nat
  | 0, _ => 0
  | n + 1, p => cnt n p + (if p n = true then 1 else 0)
theorem cnt_t {n : Nat} {p : Nat → Bool} (h : p n = true) : cnt (n + 1) p = cnt n p + 1 := by simp [cnt, h]
theorem cnt_f {n : Nat} {p : Nat → Bool} (h : p n = false) : cnt (n + 1) p = cnt n p := by simp [cnt, h]
theorem cnt_le (n : Nat) (p : Nat → Bool) : cnt n p ≤ n := by
  induction n with
  | zero => exact Nat.le_refl _
  | succ n ih => simp only [cnt]; split <;> omega
theorem cnt_not (n : Nat) (p : Nat → Bool) : cnt n p + cnt n (fun j => !p j) = n := by
  induction n with
  | zero => rfl
  | succ n ih =>
    have h : p n = true ∨ p n = false := by cases p n <;> simp
    rcases h with h | h <;> simp [cnt, h] <;> omega
theorem cnt_congr {n : Nat} {p q : Nat → Bool} (h : ∀ i, i < n → p i = q i) : cnt n p = cnt n q := by
  induction n with
  | zero => rfl
  | succ n ih => simp only [cnt]; rw [ih (fun i hi => h i (by omega)), h n (by omega)]
/-- whether a key is there -/
def hs (n : Nat) (k : Nat → Int32) (x : Int32) : Bool := decide (bel n k x < n ∧ k (bel n k x) = x)
theorem ha_bel {n : Nat} {k : Nat → Int32} {x : Int32} (hn : n ≤ 600) : ha n k (nI (bel n k x)) x = hs n k x := by
  have h := bel_le n k x
  rw [ha_nI (by omega)]; rfl
/-- whether the i-th key of one is in the other (on al: with its value) -/
def sh (n2 : Nat) (k2 v2 : Nat → Int32) (al : Bool) (k v : Nat → Int32) (i : Nat) : Bool := hs n2 k2 (k i) && (!al || decide (v2 (bel n2 k2 (k i)) = v i))
theorem i32_irr (a : Int32) : ¬ a < a := by rw [i32_lt]; omega
theorem i32_tr {a b c : Int32} (h1 : a < b) (h2 : b < c) : a < c := by rw [i32_lt] at *; omega
theorem i32_of_nle {a b : Int32} (h : ¬ b ≤ a) : a < b := by rw [i32_lt]; rw [i32_le] at h; omega
theorem i32_of_nlt {a b : Int32} (h : ¬ a < b) : b ≤ a := by rw [i32_le]; rw [i32_lt] at h; omega
theorem i32_nlt {a b : Int32} (h : b ≤ a) : ¬ a < b := by rw [i32_lt]; rw [i32_le] at h; omega
theorem i32_lt_le {a b c : Int32} (h1 : a < b) (h2 : b ≤ c) : a < c := by rw [i32_lt] at *; rw [i32_le] at h2; omega
theorem i32_le_lt {a b c : Int32} (h1 : a ≤ b) (h2 : b < c) : a < c := by rw [i32_lt] at *; rw [i32_le] at h1; omega
theorem i32_le_ne {a b : Int32} (h1 : a ≤ b) (h2 : a ≠ b) : a < b := by
  rw [i32_lt]; rw [i32_le] at h1
  have h3 : a.toInt ≠ b.toInt := fun q => h2 (Int32.toInt_inj.mp q)
  omega
theorem i32_asym {a b : Int32} (h1 : a < b) (h2 : b < a) : False := i32_irr a (i32_tr h1 h2)
theorem nI_min {a b : Nat} (ha : a < 2 ^ 31) (hb : b < 2 ^ 31) : (if nI b < nI a then nI b else nI a) = nI (min a b) := by
  by_cases h : b < a
  · rw [if_pos ((nI_ltI hb ha).mpr h), Nat.min_eq_right (by omega)]
  · rw [if_neg (fun q => h ((nI_ltI hb ha).mp q)), Nat.min_eq_left (by omega)]
/-- the number before a counted one -/
def pI (a : Nat) : Int32 := nI a - nI 1
theorem pI_succ (a : Nat) : pI (a + 1) = nI a := by
  have h := nI_pred a
  exact h
theorem pI_0 : pI 0 = -1 := by decide
theorem pI_inc (a : Nat) : nI a + Int32.ofInt (-1) = pI a := by
  have h : (Int32.ofInt (-1)) = -nI 1 := by decide
  rw [h]; exact (Int32.sub_eq_add_neg _ _).symm
theorem pI_toInt {a : Nat} (h : a < 2 ^ 31) : (pI a).toInt = (a : Int) - 1 := by
  cases a with
  | zero => rw [pI_0]; rfl
  | succ a => rw [pI_succ, nI_toInt (by omega)]; omega
theorem pI_neg {a : Nat} (h : a < 2 ^ 31) (q : pI a < 0) : a = 0 := by
  rw [i32_lt, pI_toInt h, Int32.toInt_zero] at q; omega
theorem pI_pos {a : Nat} (h : a < 2 ^ 31) (q : ¬ pI a < 0) : ∃ b, a = b + 1 := by
  rw [i32_lt, pI_toInt h, Int32.toInt_zero] at q
  exact ⟨a - 1, by omega⟩
theorem pI_add {a b : Nat} : pI a + nI b = pI (a + b) := by
  unfold pI
  rw [← nI_add, Int32.sub_eq_add_neg, Int32.sub_eq_add_neg, Int32.add_assoc, Int32.add_assoc, Int32.add_comm (-nI 1) (nI b)]
theorem hs_iff {n : Nat} {k : Nat → Int32} (hS : Srt n k) (x : Int32) : hs n k x = true ↔ ∃ i, i < n ∧ k i = x := by
  simp only [hs, decide_eq_true_eq]
  constructor
  · rintro ⟨h1, h2⟩; exact ⟨_, h1, h2⟩
  · rintro ⟨i, h1, h2⟩
    have e : bel n k x = i := bel_eq n k x i (by omega) (fun j hj => by rw [← h2]; exact hS j i hj h1) (fun _ q => by rw [h2] at q; exact i32_irr _ q)
    rw [e]; exact ⟨h1, h2⟩
theorem hs_false {n : Nat} {k : Nat → Int32} (hS : Srt n k) {x : Int32} (h : ∀ i, i < n → k i ≠ x) : hs n k x = false := by
  cases q : hs n k x with
  | false => rfl
  | true => obtain ⟨i, h1, h2⟩ := (hs_iff hS x).mp q; exact absurd h2 (h i h1)
theorem bel_at {n : Nat} {k : Nat → Int32} (hS : Srt n k) {i : Nat} (hi : i < n) : bel n k (k i) = i :=
  bel_eq n k (k i) i (by omega) (fun j hj => hS j i hj hi) (fun _ q => i32_irr _ q)
def Has (n : Nat) (k v : Nat → Int32) (x y : Int32) : Prop := ∃ i, i < n ∧ k i = x ∧ v i = y
theorem upd_same (k : Nat → Int32) (i : Nat) : upd k i (k i) = k := by
  funext j; simp only [upd]; split
  · rename_i h; rw [h]
  · rfl
end OVM

section OVT
/-- a Table at the cell t: its two rows behind it, n of their 600 places in use -/
def TB (G : Gx) (N : Nat) (ad : Nat → Nat) (f : Nat → va_E) (t n : Nat) (k v : Nat → Int32) : Prop :=
  f t = .inr (1, [.ref (ad (t + 1)), .ref (ad (t + 2)), .int (nI n)]) ∧ f (t + 1) = eI G 600 k ∧ f (t + 2) = eI G 600 v ∧ n ≤ 600 ∧ t + 2 < N
section
variable {G : Gx} {N : Nat} {ad : Nat → Nat} {f f1 : Nat → va_E} {t n : Nat} {k v : Nat → Int32}
theorem TB.lt0 (h : TB G N ad f t n k v) : t < N := by have := h.2.2.2.2; omega
theorem TB.lt1 (h : TB G N ad f t n k v) : t + 1 < N := by have := h.2.2.2.2; omega
theorem TB.lt2 (h : TB G N ad f t n k v) : t + 2 < N := h.2.2.2.2
theorem TB.upk {k2 : Nat → Int32} (h : TB G N ad f t n k v) (e : f1 = va_up f (t + 1) (eI G 600 k2)) : TB G N ad f1 t n k2 v := by
  subst e
  exact ⟨by rw [va_up_ne _ _ (by omega)]; exact h.1, va_up_self .., by rw [va_up_ne _ _ (by omega)]; exact h.2.2.1, h.2.2.2⟩
theorem TB.upv {v2 : Nat → Int32} (h : TB G N ad f t n k v) (e : f1 = va_up f (t + 2) (eI G 600 v2)) : TB G N ad f1 t n k v2 := by
  subst e
  exact ⟨by rw [va_up_ne _ _ (by omega)]; exact h.1, by rw [va_up_ne _ _ (by omega)]; exact h.2.1, va_up_self .., h.2.2.2⟩
theorem TB.upn {n2 : Nat} (h : TB G N ad f t n k v) (e : f1 = va_up f t (.inr (1, [.ref (ad (t + 1)), .ref (ad (t + 2)), .int (nI n2)]))) (hn : n2 ≤ 600) : TB G N ad f1 t n2 k v := by
  subst e
  exact ⟨va_up_self .., by rw [va_up_ne _ _ (by omega)]; exact h.2.1, by rw [va_up_ne _ _ (by omega)]; exact h.2.2.1, hn, h.2.2.2.2⟩
theorem TB.ne {c : Nat} {x : va_E} (h : TB G N ad f t n k v) (e : f1 = va_up f c x) (h0 : t ≠ c) (h1 : t + 1 ≠ c) (h2 : t + 2 ≠ c) : TB G N ad f1 t n k v := by
  subst e
  exact ⟨by rw [va_up_ne _ _ h0]; exact h.1, by rw [va_up_ne _ _ h1]; exact h.2.1, by rw [va_up_ne _ _ h2]; exact h.2.2.1, h.2.2.2⟩
theorem TB.keep (h : TB G N ad f t n k v) (h0 : f1 t = f t) (h1 : f1 (t + 1) = f (t + 1)) (h2 : f1 (t + 2) = f (t + 2)) : TB G N ad f1 t n k v :=
  ⟨h0.trans h.1, h1.trans h.2.1, h2.trans h.2.2.1, h.2.2.2⟩
/-- only the Table at t has changed -/
def Onl (t : Nat) (f f1 : Nat → va_E) : Prop := ∀ c : Nat, c < t ∨ t + 2 < c → f1 c = f c
theorem Onl.rf : Onl t f f := fun _ _ => rfl
theorem Onl.up {f2 : Nat → va_E} {c : Nat} {x : va_E} (h : Onl t f f1) (e : f2 = va_up f1 c x) (hc : t ≤ c ∧ c ≤ t + 2) : Onl t f f2 := by
  subst e
  intro d hd
  rw [va_up_ne _ _ (by omega)]
  exact h d hd
theorem ov_name {s0 : Nat} {s : State} {a : Nat} {x : va_E} {H : Heap} {locs : List Loc} (h : ov_dy G N ad s0 s (va_up f a x) H locs) : ∃ f1, f1 = va_up f a x ∧ ov_dy G N ad s0 s f1 H locs := ⟨_, rfl, h⟩
end
/-! numbers -/
theorem i32_lt (a b : Int32) : a < b ↔ a.toInt < b.toInt := Int32.lt_iff_toInt_lt
theorem i32_le (a b : Int32) : a ≤ b ↔ a.toInt ≤ b.toInt := Int32.le_iff_toInt_le
theorem i32_eq (a b : Int32) : a = b ↔ a.toInt = b.toInt := Int32.toInt_inj.symm
theorem bI_t {b : Bool} (h : b = true) : nI 1 = bI b := by rw [h]; rfl
theorem bI_f {b : Bool} (h : b = false) : nI 0 = bI b := by rw [h]; rfl
theorem nI_of_toInt {x : Int32} {n : Nat} (h : x.toInt = n) (hn : n < 2 ^ 31) : x = nI n := (i32_eq _ _).mpr (by rw [nI_toInt hn]; exact h)
/-! what is counted -/
/-- how many keys ahead are below one: the first place whose key is not -/
def bel : Nat → (Nat → Int32) → Int32 → Nat
  | 0, _, _ => 0
  | n + 1, k, key => if k 0 < key then bel n (fun j => k (j + 1)) key + 1 else 0
theorem bel_eq : ∀ (n : Nat) (k : Nat → Int32) (key : Int32) (b : Nat), b ≤ n → (∀ j, j < b → k j < key) → (b < n → ¬ k b < key) → bel n k key = b := by
  intro n
  induction n with
  | zero => intro k key b h1 _ _; exact (Nat.le_zero.mp h1).symm
  | succ n ih =>
    intro k key b h1 h2 h3
    cases b with
    | zero => simp only [bel]; rw [if_neg (h3 (Nat.succ_pos _))]
    | succ b =>
      simp only [bel]
      rw [if_pos (h2 0 (Nat.succ_pos _)), ih (fun j => k (j + 1)) key b (Nat.le_of_succ_le_succ h1) (fun j hj => h2 (j + 1) (Nat.succ_lt_succ hj)) (fun h => h3 (Nat.succ_lt_succ h))]
theorem bel_ok : ∀ (n : Nat) (k : Nat → Int32) (key : Int32), bel n k key ≤ n ∧ (∀ j, j < bel n k key → k j < key) ∧ (bel n k key < n → ¬ k (bel n k key) < key) := by
  intro n
  induction n with
  | zero => intro k key; exact ⟨Nat.le_refl _, fun j h => absurd h (Nat.not_lt_zero _), fun h => absurd h (Nat.not_lt_zero _)⟩
  | succ n ih =>
    intro k key
    simp only [bel]
    by_cases h : k 0 < key
    · rw [if_pos h]
      obtain ⟨a, b, c⟩ := ih (fun j => k (j + 1)) key
      refine ⟨Nat.succ_le_succ a, fun j hj => ?_, fun hj => c (Nat.lt_of_succ_lt_succ hj)⟩
      cases j with
      | zero => exact h
      | succ j => exact b j (Nat.lt_of_succ_lt_succ hj)
    · rw [if_neg h]
      exact ⟨Nat.zero_le _, fun j hj => absurd hj (Nat.not_lt_zero _), fun _ => h⟩
theorem bel_le (n : Nat) (k : Nat → Int32) (key : Int32) : bel n k key ≤ n := (bel_ok n k key).1
/-- whether a place is one of n -/
def wi (n : Nat) (a : Int32) : Bool := decide (0 ≤ a.toInt ∧ a.toInt < n)
/-- whether a place is one of n, and has the key -/
def ha (n : Nat) (k : Nat → Int32) (a key : Int32) : Bool := decide (0 ≤ a.toInt ∧ a.toInt < n ∧ k a.toInt.toNat = key)
theorem wi_nI {n a : Nat} (h : a < 2 ^ 31) : wi n (nI a) = decide (a < n) := by
  unfold wi; rw [nI_toInt h]; congr 1; apply propext; omega
theorem ha_nI {n a : Nat} {k : Nat → Int32} {key : Int32} (h : a < 2 ^ 31) : ha n k (nI a) key = decide (a < n ∧ k a = key) := by
  unfold ha; rw [nI_toInt h]; congr 1; apply propext
  constructor
  · rintro ⟨_, h2, h3⟩; exact ⟨by omega, by simpa using h3⟩
  · rintro ⟨h2, h3⟩; exact ⟨by omega, by omega, by simpa using h3⟩
theorem wi_t {n : Nat} {a : Int32} (hn : n ≤ 600) (h1 : ¬ a < 0) (h2 : ¬ nI n ≤ a) : wi n a = true := by
  rw [i32_lt, Int32.toInt_zero] at h1
  rw [i32_le, nI_toInt (by omega)] at h2
  simp only [wi, decide_eq_true_eq]; omega
theorem wi_f1 {n : Nat} {a : Int32} (h1 : a < 0) : wi n a = false := by
  rw [i32_lt, Int32.toInt_zero] at h1
  simp only [wi, decide_eq_false_iff_not]; omega
theorem wi_f2 {n : Nat} {a : Int32} (hn : n ≤ 600) (h2 : nI n ≤ a) : wi n a = false := by
  rw [i32_le, nI_toInt (by omega)] at h2
  simp only [wi, decide_eq_false_iff_not]; omega
theorem wi_ex {n : Nat} {a : Int32} (hn : n ≤ 600) (h : wi n a = true) : ∃ j, j < n ∧ a = nI j := by
  simp only [wi, decide_eq_true_eq] at h
  refine ⟨a.toInt.toNat, by omega, nI_of_toInt (by omega) (by omega)⟩
theorem ha_f {n : Nat} {k : Nat → Int32} {a key : Int32} (h : wi n a = false) : ha n k a key = false := by
  simp only [wi, decide_eq_false_iff_not] at h
  simp only [ha, decide_eq_false_iff_not]
  exact fun q => h ⟨q.1, q.2.1⟩
/-- how many keys ahead are not above one -/
def upt (n : Nat) (k : Nat → Int32) (key : Int32) : Nat := if ha n k (nI (bel n k key)) key = true then bel n k key + 1 else bel n k key
theorem upt_le (n : Nat) (k : Nat → Int32) (key : Int32) (hn : n ≤ 600) : upt n k key ≤ n := by
  have h := bel_le n k key
  unfold upt
  rw [ha_nI (by omega)]
  by_cases c : bel n k key < n ∧ k (bel n k key) = key
  · rw [if_pos (by simpa using c)]; omega
  · rw [if_neg (by simpa using c)]; exact h
def nea (n : Nat) (k : Nat → Int32) (key : Int32) (above : Bool) : Int32 := if above = true then nI (bel n k key) else nI (upt n k key) - nI 1
end OVT

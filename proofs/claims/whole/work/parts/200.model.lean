section OVMd
def zI (z : Int) : Int32 := Int32.ofInt z
theorem zI_nat (n : Nat) : zI (n : Int) = nI n := rfl
theorem zI_toInt {z : Int} (h1 : -2147483648 ≤ z) (h2 : z < 2147483648) : (zI z).toInt = z := by
  unfold zI; rw [Int32.toInt_ofInt, show Int32.size = 4294967296 from rfl]; exact Int.bmod_eq_of_le (by omega) (by omega)
theorem zI_add (a b : Int) : zI a + zI b = zI (a + b) := (Int32.ofInt_add a b).symm
theorem zI_sub (a b : Int) : zI a - zI b = zI (a - b) := (Int32.ofInt_sub a b).symm
theorem zI_pI (a : Nat) : pI a = zI ((a : Int) - 1) := by
  unfold pI; rw [← zI_nat, ← zI_nat, zI_sub]; rfl
/-- the reference's object at the cell 76, its rows behind it -/
def MB (G : Gx) (ad : Nat → Nat) (f : Nat → va_E) (cd : Nat) (K V : Nat → Int32) (sz : Nat → Nat) (th : Nat → Bool) (pl : Nat → Int) (dn : Nat → Bool) : Prop :=
  f 76 = .inr (3, [.int (nI cd), .ref (ad 77), .ref (ad 78), .ref (ad 79), .ref (ad 80), .ref (ad 81), .ref (ad 82)]) ∧ f 77 = eI G 12600 K ∧ f 78 = eI G 12600 V ∧ f 79 = eI G 21 (fun j => nI (sz j)) ∧ f 80 = eZ G 21 (fun j => bI (th j)) ∧ f 81 = eI G 8 (fun j => zI (pl j)) ∧ f 82 = eZ G 8 (fun j => bI (dn j))
def OnM (f f1 : Nat → va_E) : Prop := ∀ c : Nat, c < 76 ∨ 82 < c → f1 c = f c
theorem OnM.rf {f : Nat → va_E} : OnM f f := fun _ _ => rfl
theorem OnM.up {f f1 f2 : Nat → va_E} {c : Nat} {x : va_E} (h : OnM f f1) (e : f2 = va_up f1 c x) (hc : 76 ≤ c ∧ c ≤ 82) : OnM f f2 := by
  subst e
  intro d hd
  rw [va_up_ne _ _ (by omega)]
  exact h d hd
theorem OnM.tr {f f1 f2 : Nat → va_E} (h : OnM f f1) (h2 : OnM f1 f2) : OnM f f2 := fun c hc => (h2 c hc).trans (h c hc)
def of (K : Nat → Int32) (j : Nat) : Nat → Int32 := fun i => K (600 * j + i)
variable {G : Gx} {ad : Nat → Nat} {f f1 : Nat → va_E} {cd : Nat} {K V : Nat → Int32} {sz : Nat → Nat} {th : Nat → Bool} {pl : Nat → Int} {dn : Nat → Bool}
theorem MB.u0 {cd2 : Nat} (h : MB G ad f cd K V sz th pl dn) (e : f1 = va_up f 76 (.inr (3, [.int (nI cd2), .ref (ad 77), .ref (ad 78), .ref (ad 79), .ref (ad 80), .ref (ad 81), .ref (ad 82)]))) : MB G ad f1 cd2 K V sz th pl dn := by
  subst e
  obtain ⟨h0, h1, h2, h3, h4, h5, h6⟩ := h
  refine ⟨va_up_self .., ?_, ?_, ?_, ?_, ?_, ?_⟩ <;> (rw [va_up_ne _ _ (by decide)]; assumption)
theorem MB.uK {K2 : Nat → Int32} (h : MB G ad f cd K V sz th pl dn) (e : f1 = va_up f 77 (eI G 12600 K2)) : MB G ad f1 cd K2 V sz th pl dn := by
  subst e
  obtain ⟨h0, h1, h2, h3, h4, h5, h6⟩ := h
  refine ⟨?_, va_up_self .., ?_, ?_, ?_, ?_, ?_⟩ <;> (rw [va_up_ne _ _ (by decide)]; assumption)
theorem MB.uV {V2 : Nat → Int32} (h : MB G ad f cd K V sz th pl dn) (e : f1 = va_up f 78 (eI G 12600 V2)) : MB G ad f1 cd K V2 sz th pl dn := by
  subst e
  obtain ⟨h0, h1, h2, h3, h4, h5, h6⟩ := h
  refine ⟨?_, ?_, va_up_self .., ?_, ?_, ?_, ?_⟩ <;> (rw [va_up_ne _ _ (by decide)]; assumption)
theorem up_fun {α β : Type} (g : α → β) (h : Nat → α) (i : Nat) (x : α) (u : Nat → β) (hu : ∀ j, u j = if j = i then g x else g (h j)) : u = fun j => g (va_up h i x j) := by
  funext j
  rw [hu j]
  simp only [va_up]
  by_cases e : j = i
  · rw [if_pos e, if_pos e]
  · rw [if_neg e, if_neg e]
theorem MB.uZ {j n : Nat} (h : MB G ad f cd K V sz th pl dn) (e : f1 = va_up f 79 (eI G 21 (upd (fun j => nI (sz j)) j (nI n)))) : MB G ad f1 cd K V (va_up sz j n) th pl dn := by
  subst e
  obtain ⟨h0, h1, h2, h3, h4, h5, h6⟩ := h
  rw [up_fun nI sz j n (upd (fun j => nI (sz j)) j (nI n)) (fun i => by simp only [upd])]
  refine ⟨?_, ?_, ?_, va_up_self .., ?_, ?_, ?_⟩ <;> (rw [va_up_ne _ _ (by decide)]; assumption)
theorem MB.uT {j : Nat} {b : Bool} (h : MB G ad f cd K V sz th pl dn) (e : f1 = va_up f 80 (eZ G 21 (upd (fun j => bI (th j)) j (bI b)))) : MB G ad f1 cd K V sz (va_up th j b) pl dn := by
  subst e
  obtain ⟨h0, h1, h2, h3, h4, h5, h6⟩ := h
  rw [up_fun bI th j b (upd (fun j => bI (th j)) j (bI b)) (fun i => by simp only [upd])]
  refine ⟨?_, ?_, ?_, ?_, va_up_self .., ?_, ?_⟩ <;> (rw [va_up_ne _ _ (by decide)]; assumption)
theorem MB.uP {j : Nat} {z : Int} (h : MB G ad f cd K V sz th pl dn) (e : f1 = va_up f 81 (eI G 8 (upd (fun j => zI (pl j)) j (zI z)))) : MB G ad f1 cd K V sz th (va_up pl j z) dn := by
  subst e
  obtain ⟨h0, h1, h2, h3, h4, h5, h6⟩ := h
  rw [up_fun zI pl j z (upd (fun j => zI (pl j)) j (zI z)) (fun i => by simp only [upd])]
  refine ⟨?_, ?_, ?_, ?_, ?_, va_up_self .., ?_⟩ <;> (rw [va_up_ne _ _ (by decide)]; assumption)
theorem MB.uD {j : Nat} {b : Bool} (h : MB G ad f cd K V sz th pl dn) (e : f1 = va_up f 82 (eZ G 8 (upd (fun j => bI (dn j)) j (bI b)))) : MB G ad f1 cd K V sz th pl (va_up dn j b) := by
  subst e
  obtain ⟨h0, h1, h2, h3, h4, h5, h6⟩ := h
  rw [up_fun bI dn j b (upd (fun j => bI (dn j)) j (bI b)) (fun i => by simp only [upd])]
  refine ⟨?_, ?_, ?_, ?_, ?_, ?_, va_up_self ..⟩ <;> (rw [va_up_ne _ _ (by decide)]; assumption)
/-! versions and cursors by their numbers -/
def isv (th : Nat → Bool) (v : Int32) : Bool := decide (0 ≤ v.toInt ∧ v.toInt ≤ 12) && th v.toInt.toNat
def iss (th : Nat → Bool) (v : Int32) : Bool := decide (0 < v.toInt ∧ v.toInt ≤ 12) && th v.toInt.toNat
def isc (th : Nat → Bool) (v : Int32) : Bool := decide (0 ≤ v.toInt ∧ v.toInt < 8) && th (13 + v.toInt.toNat)
theorem isv_nI {j : Nat} (h : j ≤ 12) : isv th (nI j) = th j := by
  unfold isv; rw [nI_toInt (by omega), decide_eq_true (by omega)]; simp
theorem isc_nI {j : Nat} (h : j < 8) : isc th (nI j) = th (13 + j) := by
  unfold isc; rw [nI_toInt (by omega), decide_eq_true (by omega)]; simp
theorem iss_nI {j : Nat} (h : j ≤ 12) (h1 : 1 ≤ j) : iss th (nI j) = th j := by
  unfold iss; rw [nI_toInt (by omega), decide_eq_true (by omega)]; simp
theorem isv_ex {v : Int32} (h : isv th v = true) : ∃ j, j ≤ 12 ∧ v = nI j ∧ th j = true := by
  simp only [isv, Bool.and_eq_true, decide_eq_true_eq] at h
  exact ⟨v.toInt.toNat, by omega, nI_of_toInt (by omega) (by omega), h.2⟩
theorem iss_ex {v : Int32} (h : iss th v = true) : ∃ j, 1 ≤ j ∧ j ≤ 12 ∧ v = nI j ∧ th j = true := by
  simp only [iss, Bool.and_eq_true, decide_eq_true_eq] at h
  exact ⟨v.toInt.toNat, by omega, by omega, nI_of_toInt (by omega) (by omega), h.2⟩
theorem isc_ex {v : Int32} (h : isc th v = true) : ∃ j, j < 8 ∧ v = nI j ∧ th (13 + j) = true := by
  simp only [isc, Bool.and_eq_true, decide_eq_true_eq] at h
  exact ⟨v.toInt.toNat, by omega, nI_of_toInt (by omega) (by omega), h.2⟩
theorem isv_f1 {v : Int32} (h : v < 0) : isv th v = false := by
  rw [i32_lt, Int32.toInt_zero] at h
  simp only [isv, Bool.and_eq_false_iff, decide_eq_false_iff_not]; left; omega
theorem isv_f2 {v : Int32} (h : nI 12 < v) : isv th v = false := by
  rw [i32_lt, nI_toInt (by decide)] at h
  simp only [isv, Bool.and_eq_false_iff, decide_eq_false_iff_not]; left; omega
theorem iss_f1 {v : Int32} (h : v ≤ 0) : iss th v = false := by
  rw [i32_le, Int32.toInt_zero] at h
  simp only [iss, Bool.and_eq_false_iff, decide_eq_false_iff_not]; left; omega
theorem iss_isv {v : Int32} (h : ¬ v ≤ 0) : iss th v = isv th v := by
  rw [i32_le, Int32.toInt_zero] at h
  have e1 : decide (0 < v.toInt ∧ v.toInt ≤ 12) = decide (0 ≤ v.toInt ∧ v.toInt ≤ 12) := by congr 1; apply propext; omega
  simp only [iss, isv, e1]
theorem isc_f1 {v : Int32} (h : v < 0) : isc th v = false := by
  rw [i32_lt, Int32.toInt_zero] at h
  simp only [isc, Bool.and_eq_false_iff, decide_eq_false_iff_not]; left; omega
theorem isc_f2 {v : Int32} (h : nI 8 ≤ v) : isc th v = false := by
  rw [i32_le, nI_toInt (by decide)] at h
  simp only [isc, Bool.and_eq_false_iff, decide_eq_false_iff_not]; left; omega
theorem v_ex {v : Int32} {m : Nat} (hm : m < 2 ^ 31) (h1 : ¬ v < 0) (h2 : ¬ nI m < v) : ∃ j, j ≤ m ∧ v = nI j := by
  rw [i32_lt, Int32.toInt_zero] at h1
  rw [i32_lt, nI_toInt hm] at h2
  exact ⟨v.toInt.toNat, by omega, nI_of_toInt (by omega) (by omega)⟩
theorem v_ex2 {v : Int32} {m : Nat} (hm : m < 2 ^ 31) (h1 : ¬ v < 0) (h2 : ¬ nI m ≤ v) : ∃ j, j < m ∧ v = nI j := by
  rw [i32_lt, Int32.toInt_zero] at h1
  rw [i32_le, nI_toInt hm] at h2
  exact ⟨v.toInt.toNat, by omega, nI_of_toInt (by omega) (by omega)⟩
theorem nI_dec {z : Nat} (h : 1 ≤ z) : nI z + Int32.ofInt (-1) = nI (z - 1) := by
  obtain ⟨y, rfl⟩ : ∃ y, z = y + 1 := ⟨z - 1, by omega⟩
  rw [pI_inc, pI_succ]; rfl
/-- the reference's shifting up, under way: z down from s to a -/
def ShU (k kk : Nat → Int32) (z s : Nat) : Prop := (∀ i, i ≤ z → kk i = k i) ∧ (∀ i, z < i → i ≤ s → kk i = k (i - 1)) ∧ ∀ i, s < i → kk i = k i
theorem ShU_0 {k : Nat → Int32} {s : Nat} : ShU k k s s := ⟨fun _ _ => rfl, fun i h1 h2 => absurd h1 (by omega), fun _ _ => rfl⟩
theorem ShU_s {k kk : Nat → Int32} {z s : Nat} (h : ShU k kk z s) (hz : 1 ≤ z) (hs : z ≤ s) : ShU k (upd kk z (kk (z - 1))) (z - 1) s := by
  obtain ⟨h1, h2, h3⟩ := h
  refine ⟨fun i hi => ?_, fun i g1 g2 => ?_, fun i hi => ?_⟩
  · simp only [upd]; rw [if_neg (by omega)]; exact h1 i (by omega)
  · simp only [upd]
    by_cases e : i = z
    · rw [if_pos e, h1 (z - 1) (by omega), e]
    · rw [if_neg e]; exact h2 i (by omega) g2
  · simp only [upd]; rw [if_neg (by omega)]; exact h3 i hi
theorem ShU_e {k kk : Nat → Int32} {a s : Nat} {x : Int32} (h : ShU k kk a s) (ha : a ≤ s) : (∀ i, i < s + 1 → upd kk a x i = insF k a x i) ∧ ∀ i, s < i → upd kk a x i = k i := by
  obtain ⟨h1, h2, h3⟩ := h
  refine ⟨fun i hi => ?_, fun i hi => ?_⟩
  · simp only [upd, insF]
    by_cases e : i = a
    · rw [if_pos e, if_neg (by omega), if_pos e]
    · rw [if_neg e]
      by_cases g : i < a
      · rw [if_pos g]; exact h1 i (by omega)
      · rw [if_neg g, if_neg e]; exact h2 i (by omega) (by omega)
  · simp only [upd]; rw [if_neg (by omega)]; exact h3 i hi
/-- the reference's shifting down, under way -/
def ShD (k kk : Nat → Int32) (a d z : Nat) : Prop := (∀ i, i < a → kk i = k i) ∧ (∀ i, a ≤ i → i < z → kk i = k (i + d)) ∧ ∀ i, z ≤ i → kk i = k i
theorem ShD_0 {k : Nat → Int32} {a d : Nat} : ShD k k a d a := ⟨fun _ _ => rfl, fun i h1 h2 => absurd h1 (by omega), fun _ _ => rfl⟩
theorem ShD_s {k kk : Nat → Int32} {a d z : Nat} (h : ShD k kk a d z) (hz : a ≤ z) : ShD k (upd kk z (kk (z + d))) a d (z + 1) := by
  obtain ⟨h1, h2, h3⟩ := h
  refine ⟨fun i hi => ?_, fun i g1 g2 => ?_, fun i hi => ?_⟩
  · simp only [upd]; rw [if_neg (by omega)]; exact h1 i hi
  · simp only [upd]
    by_cases e : i = z
    · rw [if_pos e, h3 (z + d) (by omega), e]
    · rw [if_neg e]; exact h2 i g1 (by omega)
  · simp only [upd]; rw [if_neg (by omega)]; exact h3 i (by omega)
/-- the reference's copying, under way -/
def CpU (k kk : Nat → Int32) (j d z : Nat) : Prop := (∀ i, i < z → kk (600 * d + i) = k (600 * j + i)) ∧ ∀ x, x < 600 * d ∨ 600 * d + z ≤ x → kk x = k x
theorem CpU_0 {k : Nat → Int32} {j d : Nat} : CpU k k j d 0 := ⟨fun i h => absurd h (by omega), fun _ _ => rfl⟩
theorem CpU_s {k kk : Nat → Int32} {j d z : Nat} (h : CpU k kk j d z) (hz : z < 600) (hjd : j ≠ d) : CpU k (upd kk (600 * d + z) (kk (600 * j + z))) j d (z + 1) := by
  obtain ⟨h1, h2⟩ := h
  have h3 : kk (600 * j + z) = k (600 * j + z) := h2 _ (by omega)
  refine ⟨fun i hi => ?_, fun x hx => ?_⟩
  · simp only [upd]
    by_cases e : i = z
    · rw [e, if_pos rfl]; exact h3
    · rw [if_neg (by omega)]; exact h1 i (by omega)
  · simp only [upd]; rw [if_neg (by omega)]; exact h2 x (by omega)
end OVMd

section OVM4
theorem Onl.one {t c : Nat} {f f1 : Nat → va_E} {x : va_E} (e : f1 = va_up f c x) (hc : t ≤ c ∧ c ≤ t + 2) : Onl t f f1 := Onl.rf.up e hc
theorem upt_bel {n : Nat} {k : Nat → Int32} {lo hi : Int32} (hn : n ≤ 600) (h : hi < lo) : upt n k hi ≤ bel n k lo := by
  have a := bel_ok n k hi
  have b := bel_ok n k lo
  have c : bel n k hi ≤ bel n k lo := bel_mono (by rw [i32_le]; rw [i32_lt] at h; omega)
  unfold upt
  rw [ha_nI (by omega)]
  by_cases g : bel n k hi < n ∧ k (bel n k hi) = hi
  · rw [if_pos (decide_eq_true g)]
    refine Nat.lt_of_not_le fun q => ?_
    have e : bel n k lo = bel n k hi := by omega
    rw [e] at b
    exact b.2.2 g.1 (by rw [g.2]; exact h)
  · rw [if_neg (by rw [decide_eq_true_eq]; exact g)]; exact c
theorem man_sub {n : Nat} {k : Nat → Int32} {lo hi : Int32} (hn : n ≤ 600) : man n k lo hi = upt n k hi - bel n k lo := by
  unfold man
  by_cases h : hi < lo
  · rw [if_pos h]; have := upt_bel (k := k) hn h; omega
  · rw [if_neg h]
theorem delF_0 (k : Nat → Int32) (a i : Nat) : delF k a 0 i = k i := by simp [delF]
theorem sh_miss {n n2 : Nat} {k v k2 v2 : Nat → Int32} : n - cnt n (sh n2 k2 v2 false k v) = cnt n (fun z => !hs n2 k2 (k z)) := by
  have e : cnt n (sh n2 k2 v2 false k v) = cnt n (fun z => hs n2 k2 (k z)) := cnt_congr fun i _ => by simp [sh]
  have := cnt_not n (fun z => hs n2 k2 (k z))
  rw [e]; omega
theorem ld_c {first step : Int32} {w : Nat} (hw : w ≤ 600) : (first.toInt64 + (step.toInt64 * (nI w - nI 1).toInt64)).toInt = first.toInt + step.toInt * ((w : Int) - 1) := by
  have a1 := Int32.le_toInt first
  have a2 := Int32.toInt_lt first
  have s1 := Int32.le_toInt step
  have s2 := Int32.toInt_lt step
  have b : -1318554959872 ≤ step.toInt * ((w : Int) - 1) ∧ step.toInt * ((w : Int) - 1) ≤ 1318554959872 := by
    by_cases e : w = 0
    · subst e; simp; omega
    · rw [Int.mul_comm]; exact l_mul (s := step) hw (by omega)
  refine i64_of ?_ (by omega) (by omega)
  rw [i64_32 first, i64_32 step, i64_32 (nI w - nI 1), show nI w - nI 1 = pI w from rfl, pI_toInt (by omega), ← Int64.ofInt_mul, ← Int64.ofInt_add]
theorem ld_ct {first step : Int32} {w : Nat} (hw : w ≤ 600) (hs : nI 1 ≤ step) (h : first.toInt64 + (step.toInt64 * (nI w - nI 1).toInt64) ≤ (2147483647 : Int64)) : gld first step (nI w) = true := by
  rw [i32_le, nI_toInt (by decide)] at hs
  rw [Int64.le_iff_toInt_le, ld_c hw, show (2147483647 : Int64).toInt = 2147483647 by decide, Int.mul_comm] at h
  simp only [gld, decide_eq_true_eq]
  rw [nI_toInt (by omega)]
  exact ⟨by omega, by omega, by omega, h⟩
theorem ld_cf {first step : Int32} {w : Nat} (hw : w ≤ 600) (h : ¬ first.toInt64 + (step.toInt64 * (nI w - nI 1).toInt64) ≤ (2147483647 : Int64)) : gld first step (nI w) = false := by
  rw [Int64.le_iff_toInt_le, ld_c hw, show (2147483647 : Int64).toInt = 2147483647 by decide, Int.mul_comm] at h
  simp only [gld, decide_eq_false_iff_not]
  rw [nI_toInt (by omega)]
  rintro ⟨_, _, _, q⟩
  exact h q
theorem ld_f3' {first step n : Int32} (h : ¬ nI 1 ≤ step) : gld first step n = false := ld_f3 (i32_of_nle h)
/-- the sum of m values from a place on -/
def svF (v : Nat → Int32) (a : Nat) : Nat → Int64
  | 0 => lN 0
  | m + 1 => svF v a m + (v (a + m)).toInt64
/-- the greatest of m + 1 values from a place on -/
def gvF (v : Nat → Int32) (a : Nat) : Nat → Int32
  | 0 => v a
  | m + 1 => if gvF v a m < v (a + 1 + m) then v (a + 1 + m) else gvF v a m
theorem lft_le {d : Bool} {p : Int} {n : Nat} (h : WCp d p n) : lft d p n ≤ n := by
  unfold WCp at h; unfold lft; cases d <;> simp at * <;> omega
end OVM4

section OVX
/-- the cell of a map's Table: the present one, the snapshots', the cursors' -/
def tc (j : Nat) : Nat := if j = 0 then 1 else if j < 13 then 3 + 3 * j else 4 * j - 7
theorem tc_v {j : Nat} (h : j ≤ 12) : (j = 0 ∧ tc j = 1) ∨ (1 ≤ j ∧ tc j = 3 + 3 * j) := by
  unfold tc; split
  · left; omega
  · rw [if_pos (by omega)]; right; omega
theorem tc_c (q : Nat) : tc (13 + q) = 45 + 4 * q := by
  unfold tc; rw [if_neg (by omega), if_neg (by omega)]; omega
theorem tc_n {j : Nat} (h : j < 21) : (j ≤ 12 ∧ ((j = 0 ∧ tc j = 1) ∨ (1 ≤ j ∧ tc j = 3 + 3 * j))) ∨ (13 ≤ j ∧ tc j = 4 * j - 7) := by
  by_cases g : j ≤ 12
  · exact Or.inl ⟨g, tc_v g⟩
  · right; unfold tc; rw [if_neg (by omega), if_neg (by omega)]; omega
theorem tc_ap {i j : Nat} (hi : i < 21) (hj : j < 21) (h : i ≠ j) : tc i + 2 < tc j ∨ tc j + 2 < tc i := by
  have a := tc_n hi
  have b := tc_n hj
  omega
/-- a Cursor at the cell u -/
def CB (ad : Nat → Nat) (f : Nat → va_E) (u : Nat) (d : Bool) (p : Int) : Prop := f u = .inr (0, [.ref (ad (u + 1)), .int (bI d), .int (zI p)])
theorem CB.ud {ad : Nat → Nat} {f f1 : Nat → va_E} {u : Nat} {d d2 : Bool} {p : Int} (_h : CB ad f u d p) (e : f1 = va_up f u (.inr (0, [.ref (ad (u + 1)), .int (bI d2), .int (zI p)]))) : CB ad f1 u d2 p := by
  subst e; exact va_up_self ..
theorem CB.up {ad : Nat → Nat} {f f1 : Nat → va_E} {u : Nat} {d : Bool} {p p2 : Int} (_h : CB ad f u d p) (e : f1 = va_up f u (.inr (0, [.ref (ad (u + 1)), .int (bI d), .int (zI p2)]))) : CB ad f1 u d p2 := by
  subst e; exact va_up_self ..
theorem CB.ne {ad : Nat → Nat} {f f1 : Nat → va_E} {u c : Nat} {d : Bool} {p : Int} {x : va_E} (h : CB ad f u d p) (e : f1 = va_up f c x) (h0 : u ≠ c) : CB ad f1 u d p := by
  subst e; exact (va_up_ne _ _ h0).trans h
/-- only the Cursor at u, with its Table, has changed -/
def OnC (u : Nat) (f f1 : Nat → va_E) : Prop := ∀ c : Nat, c < u ∨ u + 3 < c → f1 c = f c
theorem OnC.rf {u : Nat} {f : Nat → va_E} : OnC u f f := fun _ _ => rfl
theorem OnC.up {u : Nat} {f f1 f2 : Nat → va_E} {c : Nat} {x : va_E} (h : OnC u f f1) (e : f2 = va_up f1 c x) (hc : u ≤ c ∧ c ≤ u + 3) : OnC u f f2 := by
  subst e
  intro d hd
  rw [va_up_ne _ _ (by omega)]
  exact h d hd
theorem OnC.on {u : Nat} {f f1 f2 : Nat → va_E} (h : OnC u f f1) (h2 : Onl (u + 1) f1 f2) : OnC u f f2 := fun c hc => (h2 c (by omega)).trans (h c hc)
/-- the class's object at the cell 0, all that it has behind it -/
def RX (G : Gx) (ad : Nat → Nat) (f : Nat → va_E) (th : Nat → Bool) (cx : Nat → Nat) (kx vx : Nat → Nat → Int32) (px : Nat → Int) (dx : Nat → Bool) : Prop :=
  f 0 = .inr (2, [.ref (ad 1), .ref (ad 4), .ref (ad 5), .ref (ad 42), .ref (ad 43)]) ∧ (∃ g, f 4 = eT G 13 g ∧ ∀ j, j < 13 → g j = some (ad (tc j))) ∧ (∃ g, f 5 = eZ G 13 g ∧ ∀ j, j < 13 → g j = bI (th j)) ∧
  (∃ g, f 42 = eU G 8 g ∧ ∀ q, q < 8 → g q = some (ad (44 + 4 * q))) ∧ (∃ g, f 43 = eZ G 8 g ∧ ∀ q, q < 8 → g q = bI (th (13 + q))) ∧ (∀ j, j < 21 → TB G 84 ad f (tc j) (cx j) (kx j) (vx j)) ∧ (∀ q, q < 8 → CB ad f (44 + 4 * q) (dx q) (px q))
def OnX (f f1 : Nat → va_E) : Prop := ∀ c : Nat, 76 ≤ c → f1 c = f c
theorem OnX.rf {f : Nat → va_E} : OnX f f := fun _ _ => rfl
theorem OnX.tr {f f1 f2 : Nat → va_E} (h : OnX f f1) (h2 : OnX f1 f2) : OnX f f2 := fun c hc => (h2 c hc).trans (h c hc)
theorem OnX.up {f f1 f2 : Nat → va_E} {c : Nat} {x : va_E} (h : OnX f f1) (e : f2 = va_up f1 c x) (hc : c < 76) : OnX f f2 := by
  subst e
  intro d hd
  rw [va_up_ne _ _ (by omega)]
  exact h d hd
theorem Onl.x {t : Nat} {f f1 : Nat → va_E} (h : Onl t f f1) (ht : t + 2 < 76) : OnX f f1 := fun c hc => h c (by omega)
theorem OnC.x {u : Nat} {f f1 : Nat → va_E} (h : OnC u f f1) (ht : u + 3 < 76) : OnX f f1 := fun c hc => h c (by omega)
variable {G : Gx} {ad : Nat → Nat} {f f1 : Nat → va_E} {th : Nat → Bool} {cx : Nat → Nat} {kx vx : Nat → Nat → Int32} {px : Nat → Int} {dx : Nat → Bool}
/-- one Table has changed -/
theorem RX.set {j n : Nat} {k v : Nat → Int32} (h : RX G ad f th cx kx vx px dx) (hj : j < 21) (hT : TB G 84 ad f1 (tc j) n k v) (hO : Onl (tc j) f f1) : RX G ad f1 th (va_up cx j n) (va_up kx j k) (va_up vx j v) px dx := by
  obtain ⟨h0, ⟨g4, h4, e4⟩, ⟨g5, h5, e5⟩, ⟨g42, h42, e42⟩, ⟨g43, h43, e43⟩, h6, h7⟩ := h
  have tj := tc_n hj
  refine ⟨(hO 0 (by omega)).trans h0, ⟨g4, (hO 4 (by omega)).trans h4, e4⟩, ⟨g5, (hO 5 (by omega)).trans h5, e5⟩, ⟨g42, (hO 42 (by omega)).trans h42, e42⟩, ⟨g43, (hO 43 (by omega)).trans h43, e43⟩, fun i hi => ?_, fun q hq => ?_⟩
  · by_cases e : i = j
    · subst e; rw [va_up_self, va_up_self, va_up_self]; exact hT
    · rw [va_up_ne _ _ e, va_up_ne _ _ e, va_up_ne _ _ e]
      have ap := tc_ap hi hj e
      exact (h6 i hi).keep (hO _ (by omega)) (hO _ (by omega)) (hO _ (by omega))
  · exact (hO _ (by omega)).trans (h7 q hq)
/-- a cursor and its Table have changed -/
theorem RX.setC {q n : Nat} {k v : Nat → Int32} {d : Bool} {p : Int} (h : RX G ad f th cx kx vx px dx) (hq : q < 8) (hT : TB G 84 ad f1 (45 + 4 * q) n k v) (hC : CB ad f1 (44 + 4 * q) d p) (hO : OnC (44 + 4 * q) f f1) : RX G ad f1 th (va_up cx (13 + q) n) (va_up kx (13 + q) k) (va_up vx (13 + q) v) (va_up px q p) (va_up dx q d) := by
  obtain ⟨h0, ⟨g4, h4, e4⟩, ⟨g5, h5, e5⟩, ⟨g42, h42, e42⟩, ⟨g43, h43, e43⟩, h6, h7⟩ := h
  refine ⟨(hO 0 (by omega)).trans h0, ⟨g4, (hO 4 (by omega)).trans h4, e4⟩, ⟨g5, (hO 5 (by omega)).trans h5, e5⟩, ⟨g42, (hO 42 (by omega)).trans h42, e42⟩, ⟨g43, (hO 43 (by omega)).trans h43, e43⟩, fun i hi => ?_, fun z hz => ?_⟩
  · by_cases e : i = 13 + q
    · subst e; rw [va_up_self, va_up_self, va_up_self, tc_c]; exact hT
    · rw [va_up_ne _ _ e, va_up_ne _ _ e, va_up_ne _ _ e]
      have ti := tc_n hi
      exact (h6 i hi).keep (hO _ (by omega)) (hO _ (by omega)) (hO _ (by omega))
  · by_cases e : z = q
    · subst e; rw [va_up_self, va_up_self]; exact hC
    · rw [va_up_ne _ _ e, va_up_ne _ _ e]; exact (hO _ (by omega)).trans (h7 z hz)
/-- only where a cursor stands -/
theorem RX.setP {q : Nat} {p : Int} (h : RX G ad f th cx kx vx px dx) (hq : q < 8) (hC : CB ad f1 (44 + 4 * q) (dx q) p) (hO : ∀ c, c ≠ 44 + 4 * q → f1 c = f c) : RX G ad f1 th cx kx vx (va_up px q p) dx := by
  have hT := h.2.2.2.2.2.1 (13 + q) (by omega)
  rw [tc_c] at hT
  have := h.setC (f1 := f1) hq (hT.keep (hO _ (by omega)) (hO _ (by omega)) (hO _ (by omega))) hC (fun c hc => hO c (by omega))
  rw [up_id, up_id, up_id, up_id] at this
  exact this
/-- whether a snapshot is there -/
theorem RX.set5 {g : Nat → Int32} {j : Nat} {b : Bool} (h : RX G ad f th cx kx vx px dx) (h5 : f 5 = eZ G 13 g) (hj : j < 13) (e : f1 = va_up f 5 (eZ G 13 (upd g j (bI b)))) : RX G ad f1 (va_up th j b) cx kx vx px dx := by
  obtain ⟨h0, ⟨g4, h4, e4⟩, ⟨g5, h5', e5⟩, ⟨g42, h42, e42⟩, ⟨g43, h43, e43⟩, h6, h7⟩ := h
  have eg : g = g5 := by
    rw [h5] at h5'
    simpa using h5'
  subst eg; subst e
  refine ⟨(va_up_ne _ _ (by decide)).trans h0, ⟨g4, (va_up_ne _ _ (by decide)).trans h4, e4⟩, ⟨_, va_up_self .., fun i hi => ?_⟩, ⟨g42, (va_up_ne _ _ (by decide)).trans h42, e42⟩, ⟨g43, (va_up_ne _ _ (by decide)).trans h43, fun q hq => ?_⟩, fun i hi => ?_, fun q hq => (va_up_ne _ _ (by omega)).trans (h7 q hq)⟩
  · simp only [upd, va_up]
    by_cases e : i = j
    · rw [if_pos e, if_pos e]
    · rw [if_neg e, if_neg e]; exact e5 i hi
  · rw [va_up_ne _ _ (by omega)]; exact e43 q hq
  · have ti := tc_n hi
    exact (h6 i hi).ne rfl (by omega) (by omega) (by omega)
theorem RX.set43 {g : Nat → Int32} {q : Nat} {b : Bool} (h : RX G ad f th cx kx vx px dx) (h43 : f 43 = eZ G 8 g) (hq : q < 8) (e : f1 = va_up f 43 (eZ G 8 (upd g q (bI b)))) : RX G ad f1 (va_up th (13 + q) b) cx kx vx px dx := by
  obtain ⟨h0, ⟨g4, h4, e4⟩, ⟨g5, h5, e5⟩, ⟨g42, h42, e42⟩, ⟨g43, h43', e43⟩, h6, h7⟩ := h
  have eg : g = g43 := by
    rw [h43] at h43'
    simpa using h43'
  subst eg; subst e
  refine ⟨(va_up_ne _ _ (by decide)).trans h0, ⟨g4, (va_up_ne _ _ (by decide)).trans h4, e4⟩, ⟨g5, (va_up_ne _ _ (by decide)).trans h5, fun i hi => ?_⟩, ⟨g42, (va_up_ne _ _ (by decide)).trans h42, e42⟩, ⟨_, va_up_self .., fun z hz => ?_⟩, fun i hi => ?_, fun z hz => (va_up_ne _ _ (by omega)).trans (h7 z hz)⟩
  · rw [va_up_ne _ _ (by omega)]; exact e5 i hi
  · simp only [upd, va_up]
    by_cases e : z = q
    · rw [if_pos e, if_pos (by omega)]
    · rw [if_neg e, if_neg (by omega)]; exact e43 z hz
  · have ti := tc_n hi
    exact (h6 i hi).ne rfl (by omega) (by omega) (by omega)
theorem RX.keep (h : RX G ad f th cx kx vx px dx) (hO : ∀ c, c < 76 → f1 c = f c) : RX G ad f1 th cx kx vx px dx := by
  obtain ⟨h0, ⟨g4, h4, e4⟩, ⟨g5, h5, e5⟩, ⟨g42, h42, e42⟩, ⟨g43, h43, e43⟩, h6, h7⟩ := h
  refine ⟨(hO 0 (by omega)).trans h0, ⟨g4, (hO 4 (by omega)).trans h4, e4⟩, ⟨g5, (hO 5 (by omega)).trans h5, e5⟩, ⟨g42, (hO 42 (by omega)).trans h42, e42⟩, ⟨g43, (hO 43 (by omega)).trans h43, e43⟩, fun i hi => ?_, fun z hz => (hO _ (by omega)).trans (h7 z hz)⟩
  have ti := tc_n hi
  exact (h6 i hi).keep (hO _ (by omega)) (hO _ (by omega)) (hO _ (by omega))
/-- whether a place of a row of truths is one, and true -/
def itk (n : Nat) (b : Nat → Bool) (v : Int32) : Bool := decide (0 ≤ v.toInt ∧ v.toInt < (n : Int)) && b v.toInt.toNat
theorem itk_isv (v : Int32) : itk 13 th v = isv th v := by
  have e1 : decide (0 ≤ v.toInt ∧ v.toInt < ((13 : Nat) : Int)) = decide (0 ≤ v.toInt ∧ v.toInt ≤ 12) := by congr 1; apply propext; omega
  simp only [itk, isv, e1]
theorem itk_isc (v : Int32) : itk 8 (fun q => th (13 + q)) v = isc th v := rfl
theorem itk_nI {n : Nat} {b : Nat → Bool} {j : Nat} (h : j < n) (hn : n < 2 ^ 31) : itk n b (nI j) = b j := by
  unfold itk; rw [nI_toInt (by omega), decide_eq_true (by omega)]; simp
theorem itk_f1 {n : Nat} {b : Nat → Bool} {v : Int32} (h : v < 0) : itk n b v = false := by
  rw [i32_lt, Int32.toInt_zero] at h
  simp only [itk, Bool.and_eq_false_iff, decide_eq_false_iff_not]; left; omega
theorem itk_f2 {n : Nat} {b : Nat → Bool} {v : Int32} (hn : n < 2 ^ 31) (h : nI n ≤ v) : itk n b v = false := by
  rw [i32_le, nI_toInt hn] at h
  simp only [itk, Bool.and_eq_false_iff, decide_eq_false_iff_not]; left; omega
def neaZ (n : Nat) (k : Nat → Int32) (key : Int32) (above : Bool) : Int := if above = true then (bel n k key : Int) else (upt n k key : Int) - 1
theorem nea_z (n : Nat) (k : Nat → Int32) (key : Int32) (above : Bool) : nea n k key above = zI (neaZ n k key above) := by
  unfold nea neaZ
  cases above
  · exact zI_pI _
  · exact (zI_nat _).symm
end OVX

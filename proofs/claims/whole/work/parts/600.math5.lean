section OVM5
/-! what is read of a row hangs on its places in use alone -/
theorem bel_congr {n : Nat} {k k2 : Nat → Int32} (h : ∀ i, i < n → k i = k2 i) (x : Int32) : bel n k x = bel n k2 x := by
  obtain ⟨a, b, c⟩ := bel_ok n k2 x
  exact bel_eq n k x _ a (fun j hj => by rw [h j (by omega)]; exact b j hj) (fun hj => by rw [h _ hj]; exact c hj)
theorem hs_congr {n : Nat} {k k2 : Nat → Int32} (h : ∀ i, i < n → k i = k2 i) (x : Int32) : hs n k x = hs n k2 x := by
  unfold hs
  rw [bel_congr h x]
  by_cases c : bel n k2 x < n
  · rw [h _ c]
  · simp [c]
theorem upt_hs {n : Nat} {k : Nat → Int32} {x : Int32} (hn : n ≤ 600) : upt n k x = if hs n k x = true then bel n k x + 1 else bel n k x := by
  unfold upt; rw [ha_bel hn]
theorem upt_congr {n : Nat} {k k2 : Nat → Int32} (hn : n ≤ 600) (h : ∀ i, i < n → k i = k2 i) (x : Int32) : upt n k x = upt n k2 x := by
  rw [upt_hs hn, upt_hs hn, hs_congr h, bel_congr h]
theorem nea_congr {n : Nat} {k k2 : Nat → Int32} (hn : n ≤ 600) (h : ∀ i, i < n → k i = k2 i) (x : Int32) (b : Bool) : nea n k x b = nea n k2 x b := by
  unfold nea; rw [upt_congr hn h, bel_congr h]
theorem neaZ_congr {n : Nat} {k k2 : Nat → Int32} (hn : n ≤ 600) (h : ∀ i, i < n → k i = k2 i) (x : Int32) (b : Bool) : neaZ n k x b = neaZ n k2 x b := by
  unfold neaZ; rw [upt_congr hn h, bel_congr h]
theorem sh_congr {n n2 : Nat} {k v k2 v2 kk vv kk2 vv2 : Nat → Int32} {al : Bool} (h : ∀ i, i < n → k i = kk i ∧ v i = vv i) (h2 : ∀ i, i < n2 → k2 i = kk2 i ∧ v2 i = vv2 i) {i : Nat} (hi : i < n) : sh n2 k2 v2 al k v i = sh n2 kk2 vv2 al kk vv i := by
  unfold sh
  rw [(h i hi).1, (h i hi).2, hs_congr (fun i hi => (h2 i hi).1), bel_congr (fun i hi => (h2 i hi).1)]
  by_cases c : bel n2 kk2 (kk i) < n2
  · rw [(h2 _ c).2]
  · have : hs n2 kk2 (kk i) = false := by simp [hs, c]
    rw [this]; rfl
theorem insF_congr {n a : Nat} {k k2 : Nat → Int32} (h : ∀ i, i < n → k i = k2 i) (ha : a ≤ n) (x : Int32) {i : Nat} (hi : i < n + 1) : insF k a x i = insF k2 a x i := by
  unfold insF
  by_cases c : i < a
  · rw [if_pos c, if_pos c, h i (by omega)]
  · rw [if_neg c, if_neg c]
    by_cases d : i = a
    · rw [if_pos d, if_pos d]
    · rw [if_neg d, if_neg d, h _ (by omega)]
theorem delF_congr {n a d : Nat} {k k2 : Nat → Int32} (h : ∀ i, i < n → k i = k2 i) (ha : a + d ≤ n) {i : Nat} (hi : i < n - d) : delF k a d i = delF k2 a d i := by
  unfold delF
  by_cases c : i < a
  · rw [if_pos c, if_pos c, h i (by omega)]
  · rw [if_neg c, if_neg c, h _ (by omega)]
theorem del_srt {n a d : Nat} {k : Nat → Int32} (hS : Srt n k) (ha : a + d ≤ n) : Srt (n - d) (delF k a d) := by
  intro i j hij hj
  unfold delF
  by_cases c : j < a
  · rw [if_pos c, if_pos (by omega)]; exact hS i j hij (by omega)
  · rw [if_neg c]
    by_cases e : i < a
    · rw [if_pos e]; exact hS i _ (by omega) (by omega)
    · rw [if_neg e]; exact hS _ _ (by omega) (by omega)
/-! ranges -/
theorem srt_le {n : Nat} {k : Nat → Int32} (hS : Srt n k) {i j : Nat} (h : i ≤ j) (hj : j < n) : k i ≤ k j := by
  rcases Nat.lt_or_eq_of_le h with g | g
  · have := hS i j g hj
    rw [i32_lt] at this; rw [i32_le]; omega
  · rw [g, i32_le]; omega
theorem in_lo {n : Nat} {k : Nat → Int32} (hS : Srt n k) {lo : Int32} {m : Nat} (hm : m < n) : lo ≤ k m ↔ bel n k lo ≤ m := by
  constructor
  · intro h
    refine Nat.le_of_not_lt fun g => ?_
    exact i32_nlt h (bel_lt g)
  · intro h
    have a := (bel_ok n k lo).2.2 (by omega)
    have b := srt_le hS h hm
    rw [i32_lt] at a; rw [i32_le] at *; omega
theorem in_hi {n : Nat} {k : Nat → Int32} (hn : n ≤ 600) (hS : Srt n k) {hi : Int32} {m : Nat} (hm : m < n) : k m ≤ hi ↔ m < upt n k hi := by
  rw [upt_hs hn]
  by_cases c : hs n k hi = true
  · rw [if_pos c]
    obtain ⟨c1, c2⟩ := of_decide_eq_true c
    constructor
    · intro h
      refine Nat.lt_of_not_le fun g => ?_
      have a := hS _ m (show bel n k hi < m by omega) hm
      rw [c2, i32_lt] at a; rw [i32_le] at h; omega
    · intro h
      have a := srt_le hS (show m ≤ bel n k hi by omega) c1
      rw [c2] at a; exact a
  · rw [if_neg c]
    have c : hs n k hi = false := by simpa using c
    constructor
    · intro h
      refine Nat.lt_of_not_le fun g => ?_
      have a := bel_gt hS c g hm
      rw [i32_lt] at a; rw [i32_le] at h; omega
    · intro h
      have a := bel_lt h
      rw [i32_lt] at a; rw [i32_le]; omega
theorem smF_congr {k v k2 v2 : Nat → Int32} {lo hi : Int32} : ∀ {n : Nat}, (∀ i, i < n → k i = k2 i ∧ v i = v2 i) → smF k v lo hi n = smF k2 v2 lo hi n := by
  intro n
  induction n with
  | zero => intro _; rfl
  | succ n ih => intro h; simp only [smF]; rw [ih (fun i hi => h i (by omega)), (h n (by omega)).1, (h n (by omega)).2]
theorem grF_congr {k v k2 v2 : Nat → Int32} {lo hi : Int32} : ∀ {n : Nat}, (∀ i, i < n → k i = k2 i ∧ v i = v2 i) → grF k v lo hi n = grF k2 v2 lo hi n := by
  intro n
  induction n with
  | zero => intro _; rfl
  | succ n ih => intro h; simp only [grF]; rw [ih (fun i hi => h i (by omega)), (h n (by omega)).1, (h n (by omega)).2]
theorem sm_sv {n : Nat} {k v : Nat → Int32} (hn : n ≤ 600) (hS : Srt n k) {lo hi : Int32} : ∀ m, m ≤ n → smF k v lo hi m = svF v (bel n k lo) (min m (upt n k hi) - bel n k lo) := by
  intro m
  induction m with
  | zero => intro _; simp [smF, svF]
  | succ m ih =>
    intro hm
    have ih := ih (by omega)
    have e1 := in_lo hS (lo := lo) (show m < n by omega)
    have e2 := in_hi hn hS (hi := hi) (show m < n by omega)
    by_cases c : bel n k lo ≤ m ∧ m < upt n k hi
    · rw [smF_t ⟨e1.mpr c.1, e2.mpr c.2⟩, ih, show min m (upt n k hi) - bel n k lo = m - bel n k lo by omega, show min (m + 1) (upt n k hi) - bel n k lo = (m - bel n k lo) + 1 by omega]
      simp only [svF]
      rw [show bel n k lo + (m - bel n k lo) = m by omega]
    · rw [smF_f (fun q => c ⟨e1.mp q.1, e2.mp q.2⟩), ih, show min (m + 1) (upt n k hi) - bel n k lo = min m (upt n k hi) - bel n k lo by omega, show lN 0 = (0 : Int64) from rfl, Int64.add_zero]
theorem sum_eq {n : Nat} {k v : Nat → Int32} (hn : n ≤ 600) (hS : Srt n k) {lo hi : Int32} : smF k v lo hi n = svF v (bel n k lo) (upt n k hi - bel n k lo) := by
  have a := upt_le n k hi hn
  rw [sm_sv hn hS n (Nat.le_refl _), Nat.min_eq_right a]
theorem gr_gv {n : Nat} {k v : Nat → Int32} (hn : n ≤ 600) (hS : Srt n k) {lo hi : Int32} : ∀ m, m ≤ n → grF k v lo hi m = if min m (upt n k hi) ≤ bel n k lo then -2147483648 else gvF v (bel n k lo) (min m (upt n k hi) - bel n k lo - 1) := by
  intro m
  induction m with
  | zero => intro _; rw [if_pos (by omega)]; rfl
  | succ m ih =>
    intro hm
    have ih := ih (by omega)
    have e1 := in_lo hS (lo := lo) (show m < n by omega)
    have e2 := in_hi hn hS (hi := hi) (show m < n by omega)
    simp only [grF]
    by_cases c : bel n k lo ≤ m ∧ m < upt n k hi
    · rw [if_neg (show ¬ min (m + 1) (upt n k hi) ≤ bel n k lo by omega)]
      by_cases d : m = bel n k lo
      · rw [if_pos (by omega)] at ih
        rw [ih, show min (m + 1) (upt n k hi) - bel n k lo - 1 = 0 by omega]
        simp only [gvF]
        rw [← d]
        by_cases g : (-2147483648 : Int32) < v m
        · rw [if_pos ⟨e1.mpr c.1, e2.mpr c.2, g⟩]
        · rw [if_neg (fun q => g q.2.2)]
          have a := Int32.le_toInt (v m)
          rw [i32_lt, show (-2147483648 : Int32).toInt = -2147483648 by decide] at g
          exact (i32_eq _ _).mpr (by rw [show (-2147483648 : Int32).toInt = -2147483648 by decide]; omega)
      · rw [if_neg (by omega)] at ih
        rw [ih, show min m (upt n k hi) - bel n k lo - 1 = m - bel n k lo - 1 by omega, show min (m + 1) (upt n k hi) - bel n k lo - 1 = (m - bel n k lo - 1) + 1 by omega]
        simp only [gvF]
        rw [show bel n k lo + 1 + (m - bel n k lo - 1) = m by omega]
        by_cases g : gvF v (bel n k lo) (m - bel n k lo - 1) < v m
        · rw [if_pos ⟨e1.mpr c.1, e2.mpr c.2, g⟩, if_pos g]
        · rw [if_neg (fun q => g q.2.2), if_neg g]
    · rw [if_neg (fun q => c ⟨e1.mp q.1, e2.mp q.2.1⟩), ih]
      by_cases d : min m (upt n k hi) ≤ bel n k lo
      · rw [if_pos d, if_pos (by omega)]
      · rw [if_neg d, if_neg (by omega), show min (m + 1) (upt n k hi) = min m (upt n k hi) by omega]
theorem gre_eq {n : Nat} {k v : Nat → Int32} (hn : n ≤ 600) (hS : Srt n k) {lo hi : Int32} (h : bel n k lo < upt n k hi) : grF k v lo hi n = gvF v (bel n k lo) (upt n k hi - bel n k lo - 1) := by
  have a := upt_le n k hi hn
  rw [gr_gv hn hS n (Nat.le_refl _), Nat.min_eq_right a, if_neg (by omega)]
/-! counts -/
theorem hs_succ {n : Nat} {k : Nat → Int32} (hS : Srt (n + 1) k) (x : Int32) : hs (n + 1) k x = (hs n k x || decide (k n = x)) := by
  have hS2 : Srt n k := fun i j a b => hS i j a (by omega)
  rw [Bool.eq_iff_iff, Bool.or_eq_true, hs_iff hS, hs_iff hS2, decide_eq_true_eq]
  constructor
  · rintro ⟨i, h1, h2⟩
    rcases Nat.lt_or_ge i n with g | g
    · exact Or.inl ⟨i, g, h2⟩
    · right; rw [show n = i by omega]; exact h2
  · rintro (⟨i, h1, h2⟩ | h)
    · exact ⟨i, by omega, h2⟩
    · exact ⟨n, by omega, h⟩
theorem srt_pre {n : Nat} {k : Nat → Int32} (hS : Srt (n + 1) k) : Srt n k := fun i j a b => hS i j a (by omega)
theorem cnt_or {m : Nat} {p q : Nat → Bool} (h : ∀ i, i < m → p i = true → q i = true → False) : cnt m (fun i => p i || q i) = cnt m p + cnt m q := by
  induction m with
  | zero => rfl
  | succ m ih =>
    have ih := ih (fun i hi => h i (by omega))
    have hm := h m (by omega)
    simp only [cnt]
    rw [ih]
    have ha : p m = true ∨ p m = false := by cases p m <;> simp
    have hb : q m = true ∨ q m = false := by cases q m <;> simp
    rcases ha with a | a <;> rcases hb with b | b
    · exact (hm a b).elim
    · simp [a, b]; omega
    · simp [a, b]; omega
    · simp [a, b]
theorem cnt_one {m : Nat} {k : Nat → Int32} {x : Int32} : Srt m k → cnt m (fun z => decide (k z = x)) = if hs m k x = true then 1 else 0 := by
  induction m with
  | zero => intro _; simp [cnt, hs]
  | succ m ih =>
    intro hS
    have ih := ih (srt_pre hS)
    simp only [cnt]
    rw [ih, hs_succ hS]
    by_cases c : k m = x
    · have : hs m k x = false := hs_false (srt_pre hS) (fun i hi q => by
        have := hS i m hi (by omega)
        rw [q, c] at this; exact i32_irr _ this)
      simp [c, this]
    · simp [c]
theorem cnt_0 {m : Nat} {p : Nat → Bool} (h : ∀ i, i < m → p i = false) : cnt m p = 0 := by
  induction m with
  | zero => rfl
  | succ m ih => simp only [cnt]; rw [ih (fun i hi => h i (by omega)), h m (by omega)]; rfl
theorem cnt_sym {m : Nat} {k2 : Nat → Int32} (hS2 : Srt m k2) : ∀ {n : Nat} {k : Nat → Int32}, Srt n k → cnt n (fun z => hs m k2 (k z)) = cnt m (fun z => hs n k (k2 z)) := by
  intro n
  induction n with
  | zero => intro k _; exact (cnt_0 (fun i _ => by simp [hs])).symm
  | succ n ih =>
    intro k hS
    have e : cnt m (fun z => hs (n + 1) k (k2 z)) = cnt m (fun z => hs n k (k2 z) || decide (k2 z = k n)) := cnt_congr (fun i _ => by
      show hs (n + 1) k (k2 i) = (hs n k (k2 i) || decide (k2 i = k n))
      rw [hs_succ hS]; congr 1; rw [decide_eq_decide]; exact eq_comm)
    rw [e, cnt_or (p := fun z => hs n k (k2 z)) (q := fun z => decide (k2 z = k n)), cnt_one hS2, ← ih (srt_pre hS)]
    · rfl
    · intro i hi a b
      obtain ⟨j, h1, h2⟩ := (hs_iff (srt_pre hS) _).mp a
      have b := of_decide_eq_true b
      have := hS j n h1 (by omega)
      rw [h2, b] at this; exact i32_irr _ this
theorem nI_sub {a b : Nat} (h : b ≤ a) : nI a - nI b = nI (a - b) := by
  have e : nI a = nI (a - b) + nI b := by rw [nI_add, Nat.sub_add_cancel h]
  rw [e, Int32.add_sub_cancel]
theorem dif_eq {n m : Nat} {k v k2 v2 : Nat → Int32} (hS : Srt n k) (hS2 : Srt m k2) : nI (n + m) - nI (cnt n (sh m k2 v2 false k v)) - nI (cnt n (sh m k2 v2 true k v)) = nI (cnt n (fun z => !sh m k2 v2 true k v z) + cnt m (fun z => !hs n k (k2 z))) := by
  have e : cnt n (sh m k2 v2 false k v) = cnt m (fun z => hs n k (k2 z)) := by
    rw [← cnt_sym hS2 hS]; exact cnt_congr (fun i _ => by simp [sh])
  have a := cnt_not n (sh m k2 v2 true k v)
  have b := cnt_not m (fun z => hs n k (k2 z))
  rw [nI_sub (by omega), nI_sub (by omega)]
  congr 1
  omega
/-! a sorted row is what it holds -/
theorem srt_inj {n : Nat} {k : Nat → Int32} (hS : Srt n k) {i j : Nat} (hi : i < n) (hj : j < n) (h : k i = k j) : i = j := by
  rcases Nat.lt_trichotomy i j with g | g | g
  · have := hS i j g hj; rw [h] at this; exact absurd this (i32_irr _)
  · exact g
  · have := hS j i g hi; rw [h] at this; exact absurd this (i32_irr _)
theorem srt_low {n : Nat} {k v k2 v2 : Nat → Int32} (hS : Srt n k) (hS2 : Srt n k2) (h : ∀ x y, Has n k v x y → Has n k2 v2 x y) {i : Nat} (hi : i < n) (ih : ∀ z, z < i → k z = k2 z) : k2 i ≤ k i := by
  obtain ⟨z, h1, h2, -⟩ := h _ _ ⟨i, hi, rfl, rfl⟩
  rw [← h2]
  refine srt_le hS2 (Nat.le_of_not_lt fun g => ?_) h1
  have := hS z i g hi
  rw [ih z g, h2] at this; exact i32_irr _ this
theorem srt_uniq {n : Nat} {k v k2 v2 : Nat → Int32} (hS : Srt n k) (hS2 : Srt n k2) (h : ∀ x y, Has n k v x y ↔ Has n k2 v2 x y) : ∀ i, i < n → k i = k2 i ∧ v i = v2 i := by
  have key : ∀ m i, i < m → i < n → k i = k2 i := by
    intro m
    induction m with
    | zero => intro i a; exact absurd a (Nat.not_lt_zero _)
    | succ m ih =>
      intro i a hi
      have a1 := srt_low hS hS2 (fun x y q => (h x y).mp q) hi (fun z hz => ih z (by omega) (by omega))
      have a2 := srt_low hS2 hS (fun x y q => (h x y).mpr q) hi (fun z hz => (ih z (by omega) (by omega)).symm)
      rw [i32_le] at a1 a2
      exact (i32_eq _ _).mpr (by omega)
  intro i hi
  have e := key (i + 1) i (by omega) hi
  obtain ⟨z, h1, h2, h3⟩ := (h _ _).mp ⟨i, hi, rfl, rfl⟩
  rw [e] at h2
  rw [srt_inj hS2 h1 hi h2] at h3
  exact ⟨e, h3.symm⟩
/-! the first difference -/
theorem sh_same {n m : Nat} {k v k2 v2 : Nat → Int32} (hS2 : Srt m k2) {z : Nat} (hz : z < m) (h : k z = k2 z ∧ v z = v2 z) : sh m k2 v2 true k v z = true := by
  unfold sh
  rw [h.1, (hs_iff hS2 _).mpr ⟨z, hz, rfl⟩, bel_at hS2 hz, h.2]; simp
theorem sh_no {m : Nat} {k v k2 v2 : Nat → Int32} {al : Bool} (hS2 : Srt m k2) {z : Nat} (h : ∀ i, i < m → k2 i ≠ k z) : sh m k2 v2 al k v z = false := by
  unfold sh
  rw [hs_false hS2 h]; rfl
theorem sh_oth {m : Nat} {k v k2 v2 : Nat → Int32} (hS2 : Srt m k2) {z : Nat} (hz : z < m) (h : k z = k2 z) (h2 : ¬ v z = v2 z) : sh m k2 v2 true k v z = false := by
  unfold sh
  rw [h, bel_at hS2 hz]
  have : ¬ v2 z = v z := fun q => h2 q.symm
  simp [this]
/-- a key at the place i that is below all of the other's from i on is not in the other -/
theorem fd_no {n m : Nat} {k k2 : Nat → Int32} (hS : Srt n k) (hS2 : Srt m k2) {i : Nat} (hi : i < n) (h1 : ∀ z, z < i → k z = k2 z) (h2 : i < m → k i < k2 i) : ∀ z, z < m → k2 z ≠ k i := by
  intro z hz q
  rcases Nat.lt_or_ge z i with g | g
  · have := hS z i g hi
    rw [h1 z g, q] at this; exact i32_irr _ this
  · have a := srt_le hS2 g hz
    have b := h2 (by omega)
    rw [q] at a
    exact i32_nlt a b
/-! loads -/
theorem ld_at {first step : Int32} {w : Nat} (hw : w ≤ 600) (h : gld first step (nI w) = true) {z : Nat} (hz : z < w) : (first + step * nI z).toInt = first.toInt + step.toInt * z := by
  simp only [gld, decide_eq_true_eq] at h
  rw [nI_toInt (by omega)] at h
  obtain ⟨-, -, h1, h2⟩ := h
  have a1 := Int32.le_toInt first
  have a2 := Int32.toInt_lt first
  have e : step.toInt * (z : Int) ≤ ((w : Int) - 1) * step.toInt := by
    rw [Int.mul_comm]; exact Int.mul_le_mul_of_nonneg_right (by omega) (by omega)
  have e0 : 0 ≤ step.toInt * (z : Int) := Int.mul_nonneg (by omega) (by omega)
  have f1 : first = zI first.toInt := by unfold zI; rw [Int32.ofInt_toInt]
  have f2 : step = zI step.toInt := by unfold zI; rw [Int32.ofInt_toInt]
  have f3 : first + step * nI z = zI (first.toInt + step.toInt * (z : Int)) := by
    conv => lhs; rw [f1, f2, ← zI_nat]
    unfold zI
    rw [← Int32.ofInt_mul, ← Int32.ofInt_add]
  rw [f3]
  exact zI_toInt (by omega) (by omega)
theorem ld_srt {first step : Int32} {w : Nat} (hw : w ≤ 600) (h : gld first step (nI w) = true) : Srt w (fun z => first + step * nI z) := by
  intro i j hij hj
  show first + step * nI i < first + step * nI j
  rw [i32_lt, ld_at hw h (by omega), ld_at hw h hj]
  simp only [gld, decide_eq_true_eq] at h
  obtain ⟨-, -, h1, -⟩ := h
  have : step.toInt * (i : Int) < step.toInt * (j : Int) := Int.mul_lt_mul_of_pos_left (by omega) (by omega)
  omega
/-! where a cursor stands -/
theorem stp_w {d : Bool} {p : Int} {n i : Nat} (h : WCp d p n) (hi : i ≤ lft d p n) : WCp d (stp d p i) n := by
  unfold WCp at *; unfold lft at hi; unfold stp
  cases d <;> simp at * <;> omega
theorem nea_w {n : Nat} {k : Nat → Int32} {x : Int32} {d : Bool} (hn : n ≤ 600) : WCp d (neaZ n k x (!d)) n := by
  have a := bel_le n k x
  have b := upt_le n k x hn
  unfold WCp neaZ
  cases d <;> simp <;> omega
end OVM5

section OVB
/-- the tables' numbers of the classes and of the rows' classes: ints, booleans, Tables, Cursors, longs -/
abbrev Gx : Type := va_G × (Nat → ClassId)
def ov_ty (G : Gx) : List (ClassId × FieldType) := [(G.2 0, .int), (G.2 1, .boolean), (G.2 2, .object RX1), (G.2 3, .object RX0), (G.2 4, .long)]
/-- ONE world: N cells, the k-th at ad k, with f k in it -/
def ov_wl (N : Nat) (ad : Nat → Nat) (f : Nat → va_E) : va_W := (List.range N).map (fun k => (ad k, f k))
abbrev eI (G : Gx) (n : Nat) (g : Nat → Int32) : va_E := .inl (G.2 0, n, .inl g)
abbrev eZ (G : Gx) (n : Nat) (g : Nat → Int32) : va_E := .inl (G.2 1, n, .inl g)
abbrev eT (G : Gx) (n : Nat) (g : Nat → Option Nat) : va_E := .inl (G.2 2, n, .inr (.inr (.inr (.inr g))))
abbrev eU (G : Gx) (n : Nat) (g : Nat → Option Nat) : va_E := .inl (G.2 3, n, .inr (.inr (.inr (.inr g))))
abbrev eJ (G : Gx) (n : Nat) (g : Nat → Int64) : va_E := .inl (G.2 4, n, .inr (.inl g))
theorem ov_get {N : Nat} {ad : Nat → Nat} {f : Nat → va_E} {k : Nat} {e : va_E} (hk : k < N) (hf : f k = e) : (ov_wl N ad f)[k]? = some (ad k, e) := by
  simp [ov_wl, hk, hf]
theorem ov_set {N : Nat} {ad : Nat → Nat} {f : Nat → va_E} {k : Nat} {e : va_E} (hk : k < N) : (ov_wl N ad f).set k (ad k, e) = ov_wl N ad (va_up f k e) := by
  refine List.ext_getElem? fun i => ?_
  simp only [ov_wl, List.getElem?_set, List.length_map, List.length_range, List.getElem?_map]
  by_cases h : k = i
  · subst h
    simp [hk, va_up]
  · have h2 : ¬ i = k := fun q => h q.symm
    by_cases hi : i < N
    · simp [h, h2, hi, va_up]
    · simp [h, hi]
abbrev xIO : String := "java/lang/IndexOutOfBoundsException"
abbrev xNS : String := "java/util/NoSuchElementException"
abbrev xUO : String := "java/lang/UnsupportedOperationException"
abbrev xIA : String := "java/lang/IllegalArgumentException"
/-- words of a throw that are carried from state to state by themselves -/
def ov_NC : List (String × String) := [(xIO, xIO), (xNS, xNS), (xUO, xUO), (xIA, xIA)]
def ov_ND : List MethodName := [Bundle.init0 "java/lang/RuntimeException", Bundle.init0 "java/lang/Exception", Bundle.init0 Bundle.tN]
def ov_NG : List Cond := ov_NC.map (fun q => .castable q.1 q.2) ++ ov_ND.map (fun x => .declares x)
def ov_Nt (U : State) : Prop := (∀ q ∈ ov_NC, (Cond.castable q.1 q.2).before #[] U = true) ∧ (∀ x ∈ ov_ND, (Cond.declares x).before #[] U = true) ∧ va_Nc xUO xIO U ∧ va_Nc xNS xIO U ∧ va_Nc xIA xIO U
theorem ov_Nt.moved {u U : State} (hvm : u.vm.Alike U.vm) (h : ov_Nt u) : ov_Nt U :=
  ⟨fun q hq => va_tabs rfl (rfl : (u.setVm U.vm).vm = U.vm) (by rw [Cond.castable_setVm hvm]; exact h.1 q hq), fun x hx => va_tabs rfl (rfl : (u.setVm U.vm).vm = U.vm) (by rw [Cond.declares_setVm hvm]; exact h.2.1 x hx), h.2.2.1.moved hvm, h.2.2.2.1.moved hvm, h.2.2.2.2.moved hvm⟩
theorem ov_Nt.use {U : State} {args : Array Value} (h : ov_Nt U) : ∀ w ∈ ov_NG, w.before args U = true := by
  intro w hw
  rcases List.mem_append.mp hw with g | g
  · obtain ⟨q, hq, rfl⟩ := List.mem_map.mp g
    exact va_tabs rfl rfl (h.1 q hq)
  · obtain ⟨x, hx, rfl⟩ := List.mem_map.mp g
    exact va_tabs rfl rfl (h.2.1 x hx)
def ov_A (s0 : Nat) : Nat → Prop := fun q => s0 ≤ q
def ov_Z (s0 : Nat) (U : State) (H : Heap) : Prop := vx_Zq Bundle.tN "UNASSIGNED_STACK" Bundle.steD (ov_A s0) U H ∧ vx_Zq Bundle.tN "SUPPRESSED_SENTINEL" Bundle.listD (ov_A s0) U H ∧ ov_Nt U
theorem ov_Z.moved {s0 : Nat} {u U : State} {H : Heap} (hvm : u.vm.Alike U.vm) (h : ov_Z s0 u H) : ov_Z s0 U H := ⟨h.1.moved hvm, h.2.1.moved hvm, h.2.2.moved hvm⟩
theorem ov_Z.kept {s0 : Nat} {U : State} {H H1 : Heap} (h : ov_Z s0 U H) (hq : ∀ a : Nat, a < H.size → ¬ ov_A s0 a → H1[a]? = H[a]?) : ov_Z s0 U H1 := ⟨h.1.kept hq, h.2.1.kept hq, h.2.2⟩
/-- a state holds the world -/
def ov_wo (G : Gx) (N : Nat) (ad : Nat → Nat) (s0 : Nat) (f : Nat → va_E) (U : State) : Prop :=
  va_P G.1 vwCl (ov_wl N ad f) U.heap ∧ va_D (ov_A s0) (ov_wl N ad f) ∧ va_K G.1 vwCl (ov_ty G) U ∧ ov_Z s0 U U.heap ∧ s0 ≤ U.heap.size
/-- inside a body: the heap holds the world, and what was outside is as it was at the entry -/
def ov_dy (G : Gx) (N : Nat) (ad : Nat → Nat) (s0 : Nat) (s : State) (f : Nat → va_E) (H : Heap) (locs : List Loc) : Prop :=
  va_P G.1 vwCl (ov_wl N ad f) H ∧ va_D (ov_A s0) (ov_wl N ad f) ∧ va_S (ov_A s0) s.heap H locs ∧ va_K G.1 vwCl (ov_ty G) s ∧ ov_Z s0 s s.heap ∧ s0 ≤ s.heap.size
theorem ov_dy.of {G : Gx} {N : Nat} {ad : Nat → Nat} {s0 : Nat} {s : State} {f : Nat → va_E} (h : ov_wo G N ad s0 f s) : ov_dy G N ad s0 s f s.heap [] := ⟨h.1, h.2.1, va_S.rf, h.2.2.1, h.2.2.2.1, h.2.2.2.2⟩
theorem ov_dy.wo {G : Gx} {N : Nat} {ad : Nat → Nat} {s0 : Nat} {s : State} {f : Nat → va_E} {H : Heap} {locs : List Loc} (h : ov_dy G N ad s0 s f H locs) {t : State} (ht : t.heap = H) (hv : s.vm.Alike t.vm) : ov_wo G N ad s0 f t := by
  obtain ⟨hP, hD, hS, hK, hZ, hz⟩ := h
  exact ⟨by rw [ht]; exact hP, hD, hK.moved hv, by rw [ht]; exact (hZ.kept hS.2.1).moved hv, by rw [ht]; exact Nat.le_trans hz hS.1⟩
theorem ov_dy.next {G : Gx} {N : Nat} {ad : Nat → Nat} {s0 : Nat} {s t : State} {f f' : Nat → va_E} {H H1 : Heap} {locs locs1 : List Loc} (h : ov_dy G N ad s0 s f H locs) (hw : ov_wo G N ad s0 f' t) (ht : t.heap = H1) (hS : va_S (ov_A s0) s.heap H1 locs1) : ov_dy G N ad s0 s f' H1 locs1 :=
  ⟨by rw [← ht]; exact hw.1, hw.2.1, hS, h.2.2.2.1, h.2.2.2.2.1, h.2.2.2.2.2⟩
theorem ov_blind {G : Gx} {N : Nat} {ad : Nat → Nat} {s0 : Nat} {f : Nat → va_E} {av : List Value} : FrameBlind (va_Pc av (ov_wo G N ad s0 f)) := fun a U g mk h =>
  ⟨h.1, h.2.1, h.2.2.1, va_K.moved (u := U) (U := U.calling g mk a) (Vm.Alike.refl U.vm) h.2.2.2.1, ov_Z.moved (u := U) (U := U.calling g mk a) (Vm.Alike.refl U.vm) h.2.2.2.2.1, h.2.2.2.2.2⟩
abbrev ov_rm (fr lo mc ms : Nat) : Room := { frames := fr, cells := mc, slots := ms, locals := lo }
/-- contracts over the one world: answers an int, nothing, a long, a cell of the world; the last four may throw, the world as it was -/
abbrev mI (l : Launch) (y : MethodName) (ws : List Cond) (fr lo mc ms : Nat) (As : List Value) (G : Gx) (N : Nat) (ad : Nat → Nat) (s0 : Nat) (f : Nat → va_E) (post : Int32 → (Nat → va_E) → Prop) : Prop :=
  Met l y ws (ov_rm fr lo mc ms) (va_Pc As (ov_wo G N ad s0 f)) (va_Qi post (ov_wo G N ad s0) (ov_A s0)) mc ms (ov_A s0)
abbrev mV (l : Launch) (y : MethodName) (ws : List Cond) (fr lo mc ms : Nat) (As : List Value) (G : Gx) (N : Nat) (ad : Nat → Nat) (s0 : Nat) (f : Nat → va_E) (post : (Nat → va_E) → Prop) : Prop :=
  Met l y ws (ov_rm fr lo mc ms) (va_Pc As (ov_wo G N ad s0 f)) (va_Qv post (ov_wo G N ad s0) (ov_A s0)) mc ms (ov_A s0)
abbrev mL (l : Launch) (y : MethodName) (ws : List Cond) (fr lo mc ms : Nat) (As : List Value) (G : Gx) (N : Nat) (ad : Nat → Nat) (s0 : Nat) (f : Nat → va_E) (post : Int64 → (Nat → va_E) → Prop) : Prop :=
  Met l y ws (ov_rm fr lo mc ms) (va_Pc As (ov_wo G N ad s0 f)) (va_Ql post (ov_wo G N ad s0) (ov_A s0)) mc ms (ov_A s0)
abbrev ov_XC (G : Gx) (N : Nat) (ad : Nat → Nat) (s0 : Nat) (f : Nat → va_E) (PX : String → Prop) : String → State → State → Prop := vx_X (fun _ : Unit => True) (fun E _ t => PX E ∧ ov_wo G N ad s0 f t) (ov_A s0)
abbrev xI (l : Launch) (y : MethodName) (ws : List Cond) (fr lo mc ms : Nat) (As : List Value) (G : Gx) (N : Nat) (ad : Nat → Nat) (s0 : Nat) (f : Nat → va_E) (PX : String → Prop) (post : Int32 → (Nat → va_E) → Prop) : Prop :=
  vx_Met l y ws (ov_rm fr lo mc ms) (va_Pc As (ov_wo G N ad s0 f)) (va_Qi post (ov_wo G N ad s0) (ov_A s0)) (ov_XC G N ad s0 f PX) mc ms (ov_A s0)
abbrev xL (l : Launch) (y : MethodName) (ws : List Cond) (fr lo mc ms : Nat) (As : List Value) (G : Gx) (N : Nat) (ad : Nat → Nat) (s0 : Nat) (f : Nat → va_E) (PX : String → Prop) (post : Int64 → (Nat → va_E) → Prop) : Prop :=
  vx_Met l y ws (ov_rm fr lo mc ms) (va_Pc As (ov_wo G N ad s0 f)) (va_Ql post (ov_wo G N ad s0) (ov_A s0)) (ov_XC G N ad s0 f PX) mc ms (ov_A s0)
/-- a cell of the world, by its number -/
def ov_Qr (post : Nat → (Nat → va_E) → Prop) (G : Gx) (N : Nat) (ad : Nat → Nat) (s0 : Nat) : Array Value → State → Outcome → State → Prop := fun _ st oc t => (∃ (r : Nat) (u : Nat → va_E), oc = .returned (some (.ref (ad r))) ∧ post r u ∧ ov_wo G N ad s0 u t) ∧ va_F (ov_A s0) st t
abbrev xR (l : Launch) (y : MethodName) (ws : List Cond) (fr lo mc ms : Nat) (As : List Value) (G : Gx) (N : Nat) (ad : Nat → Nat) (s0 : Nat) (f : Nat → va_E) (PX : String → Prop) (post : Nat → (Nat → va_E) → Prop) : Prop :=
  vx_Met l y ws (ov_rm fr lo mc ms) (va_Pc As (ov_wo G N ad s0 f)) (ov_Qr post G N ad s0) (ov_XC G N ad s0 f PX) mc ms (ov_A s0)
end OVB

section
-- ===== PART A: goes FIRST, ahead of the names: the tables' words, and 'selects' of the private methods out of them =====
/-- a private method of a class that the tables say can be made, by its rows of tables_1 -/
def lw_okq (q : MethodName × Nat) : Prop := (q.1.cls ≠ "java/lang/invoke/MethodHandle" ∧ q.1.cls ≠ "java/lang/invoke/VarHandle") ∧ Cond.instantiable q.1.cls q.2 ∈ tables_1 ∧ Cond.privateMethod q.1 ∈ tables_1 ∧ Cond.instanceMethod q.1 ∈ tables_1
theorem lw_p0 : lw_okq (⟨"java/lang/Throwable", "fillInStackTrace", "(I)Ljava/lang/Throwable;"⟩, 6) := ⟨⟨by decide +kernel, by decide +kernel⟩, List.mem_of_getElem? (i := 172) (by decide +kernel), List.mem_of_getElem? (i := 170) (by decide +kernel), List.mem_of_getElem? (i := 171) (by decide +kernel)⟩
theorem lw_p1 : lw_okq (⟨"OrderedVersions", "mapOf", "(I)LOrderedVersions$Table;"⟩, 5) := ⟨⟨by decide +kernel, by decide +kernel⟩, List.mem_of_getElem? (i := 15) (by decide +kernel), List.mem_of_getElem? (i := 260) (by decide +kernel), List.mem_of_getElem? (i := 261) (by decide +kernel)⟩
theorem lw_p2 : lw_okq (⟨"OrderedVersions", "snapshotOf", "(I)LOrderedVersions$Table;"⟩, 5) := ⟨⟨by decide +kernel, by decide +kernel⟩, List.mem_of_getElem? (i := 15) (by decide +kernel), List.mem_of_getElem? (i := 311) (by decide +kernel), List.mem_of_getElem? (i := 312) (by decide +kernel)⟩
theorem lw_p3 : lw_okq (⟨"OrderedVersions", "cursorOf", "(I)LOrderedVersions$Cursor;"⟩, 5) := ⟨⟨by decide +kernel, by decide +kernel⟩, List.mem_of_getElem? (i := 15) (by decide +kernel), List.mem_of_getElem? (i := 428) (by decide +kernel), List.mem_of_getElem? (i := 429) (by decide +kernel)⟩
theorem lw_p4 : lw_okq (⟨"OrderedVersionsModel", "has", "(II)Z"⟩, 7) := ⟨⟨by decide +kernel, by decide +kernel⟩, List.mem_of_getElem? (i := 465) (by decide +kernel), List.mem_of_getElem? (i := 501) (by decide +kernel), List.mem_of_getElem? (i := 502) (by decide +kernel)⟩
theorem lw_p5 : lw_okq (⟨"OrderedVersionsModel", "below", "(II)I"⟩, 7) := ⟨⟨by decide +kernel, by decide +kernel⟩, List.mem_of_getElem? (i := 465) (by decide +kernel), List.mem_of_getElem? (i := 505) (by decide +kernel), List.mem_of_getElem? (i := 506) (by decide +kernel)⟩
theorem lw_p6 : lw_okq (⟨"OrderedVersionsModel", "insert", "(II)V"⟩, 7) := ⟨⟨by decide +kernel, by decide +kernel⟩, List.mem_of_getElem? (i := 465) (by decide +kernel), List.mem_of_getElem? (i := 509) (by decide +kernel), List.mem_of_getElem? (i := 510) (by decide +kernel)⟩
theorem lw_p7 : lw_okq (⟨"OrderedVersionsModel", "takeOut", "(II)V"⟩, 7) := ⟨⟨by decide +kernel, by decide +kernel⟩, List.mem_of_getElem? (i := 465) (by decide +kernel), List.mem_of_getElem? (i := 517) (by decide +kernel), List.mem_of_getElem? (i := 518) (by decide +kernel)⟩
theorem lw_p8 : lw_okq (⟨"OrderedVersionsModel", "many", "(III)I"⟩, 7) := ⟨⟨by decide +kernel, by decide +kernel⟩, List.mem_of_getElem? (i := 465) (by decide +kernel), List.mem_of_getElem? (i := 530) (by decide +kernel), List.mem_of_getElem? (i := 531) (by decide +kernel)⟩
theorem lw_p9 : lw_okq (⟨"OrderedVersionsModel", "upTo", "(II)I"⟩, 7) := ⟨⟨by decide +kernel, by decide +kernel⟩, List.mem_of_getElem? (i := 465) (by decide +kernel), List.mem_of_getElem? (i := 534) (by decide +kernel), List.mem_of_getElem? (i := 535) (by decide +kernel)⟩
theorem lw_p10 : lw_okq (⟨"OrderedVersionsModel", "isVersion", "(I)Z"⟩, 7) := ⟨⟨by decide +kernel, by decide +kernel⟩, List.mem_of_getElem? (i := 465) (by decide +kernel), List.mem_of_getElem? (i := 542) (by decide +kernel), List.mem_of_getElem? (i := 543) (by decide +kernel)⟩
theorem lw_p11 : lw_okq (⟨"OrderedVersionsModel", "spare", "(II)I"⟩, 7) := ⟨⟨by decide +kernel, by decide +kernel⟩, List.mem_of_getElem? (i := 465) (by decide +kernel), List.mem_of_getElem? (i := 550) (by decide +kernel), List.mem_of_getElem? (i := 551) (by decide +kernel)⟩
theorem lw_p12 : lw_okq (⟨"OrderedVersionsModel", "copy", "(II)V"⟩, 7) := ⟨⟨by decide +kernel, by decide +kernel⟩, List.mem_of_getElem? (i := 465) (by decide +kernel), List.mem_of_getElem? (i := 554) (by decide +kernel), List.mem_of_getElem? (i := 555) (by decide +kernel)⟩
theorem lw_p13 : lw_okq (⟨"OrderedVersionsModel", "isSnapshot", "(I)Z"⟩, 7) := ⟨⟨by decide +kernel, by decide +kernel⟩, List.mem_of_getElem? (i := 465) (by decide +kernel), List.mem_of_getElem? (i := 562) (by decide +kernel), List.mem_of_getElem? (i := 563) (by decide +kernel)⟩
theorem lw_p14 : lw_okq (⟨"OrderedVersionsModel", "isOther", "(III)Z"⟩, 7) := ⟨⟨by decide +kernel, by decide +kernel⟩, List.mem_of_getElem? (i := 465) (by decide +kernel), List.mem_of_getElem? (i := 603) (by decide +kernel), List.mem_of_getElem? (i := 604) (by decide +kernel)⟩
theorem lw_p15 : lw_okq (⟨"OrderedVersionsModel", "firstOther", "(II)I"⟩, 7) := ⟨⟨by decide +kernel, by decide +kernel⟩, List.mem_of_getElem? (i := 465) (by decide +kernel), List.mem_of_getElem? (i := 611) (by decide +kernel), List.mem_of_getElem? (i := 612) (by decide +kernel)⟩
def lw_privs_1 : List (MethodName × Nat) := [(⟨"java/lang/Throwable", "fillInStackTrace", "(I)Ljava/lang/Throwable;"⟩, 6), (⟨"OrderedVersions", "mapOf", "(I)LOrderedVersions$Table;"⟩, 5), (⟨"OrderedVersions", "snapshotOf", "(I)LOrderedVersions$Table;"⟩, 5), (⟨"OrderedVersions", "cursorOf", "(I)LOrderedVersions$Cursor;"⟩, 5), (⟨"OrderedVersionsModel", "has", "(II)Z"⟩, 7), (⟨"OrderedVersionsModel", "below", "(II)I"⟩, 7), (⟨"OrderedVersionsModel", "insert", "(II)V"⟩, 7), (⟨"OrderedVersionsModel", "takeOut", "(II)V"⟩, 7), (⟨"OrderedVersionsModel", "many", "(III)I"⟩, 7), (⟨"OrderedVersionsModel", "upTo", "(II)I"⟩, 7), (⟨"OrderedVersionsModel", "isVersion", "(I)Z"⟩, 7), (⟨"OrderedVersionsModel", "spare", "(II)I"⟩, 7), (⟨"OrderedVersionsModel", "copy", "(II)V"⟩, 7), (⟨"OrderedVersionsModel", "isSnapshot", "(I)Z"⟩, 7), (⟨"OrderedVersionsModel", "isOther", "(III)Z"⟩, 7), (⟨"OrderedVersionsModel", "firstOther", "(II)I"⟩, 7)]
theorem lw_r1 : ∀ q ∈ lw_privs_1, lw_okq q := List.forall_mem_cons.mpr ⟨lw_p0, List.forall_mem_cons.mpr ⟨lw_p1, List.forall_mem_cons.mpr ⟨lw_p2, List.forall_mem_cons.mpr ⟨lw_p3, List.forall_mem_cons.mpr ⟨lw_p4, List.forall_mem_cons.mpr ⟨lw_p5, List.forall_mem_cons.mpr ⟨lw_p6, List.forall_mem_cons.mpr ⟨lw_p7, List.forall_mem_cons.mpr ⟨lw_p8, List.forall_mem_cons.mpr ⟨lw_p9, List.forall_mem_cons.mpr ⟨lw_p10, List.forall_mem_cons.mpr ⟨lw_p11, List.forall_mem_cons.mpr ⟨lw_p12, List.forall_mem_cons.mpr ⟨lw_p13, List.forall_mem_cons.mpr ⟨lw_p14, List.forall_mem_cons.mpr ⟨lw_p15, fun _ h => absurd h List.not_mem_nil⟩⟩⟩⟩⟩⟩⟩⟩⟩⟩⟩⟩⟩⟩⟩⟩
theorem lw_p16 : lw_okq (⟨"OrderedVersionsModel", "isCursor", "(I)Z"⟩, 7) := ⟨⟨by decide +kernel, by decide +kernel⟩, List.mem_of_getElem? (i := 465) (by decide +kernel), List.mem_of_getElem? (i := 623) (by decide +kernel), List.mem_of_getElem? (i := 624) (by decide +kernel)⟩
theorem lw_p17 : lw_okq (⟨"OrderedVersionsModel", "isAtEnd", "(I)Z"⟩, 7) := ⟨⟨by decide +kernel, by decide +kernel⟩, List.mem_of_getElem? (i := 465) (by decide +kernel), List.mem_of_getElem? (i := 627) (by decide +kernel), List.mem_of_getElem? (i := 628) (by decide +kernel)⟩
theorem lw_p18 : lw_okq (⟨"OrderedVersionsModel", "goOn", "(I)V"⟩, 7) := ⟨⟨by decide +kernel, by decide +kernel⟩, List.mem_of_getElem? (i := 465) (by decide +kernel), List.mem_of_getElem? (i := 631) (by decide +kernel), List.mem_of_getElem? (i := 632) (by decide +kernel)⟩
def lw_privs_2 : List (MethodName × Nat) := [(⟨"OrderedVersionsModel", "isCursor", "(I)Z"⟩, 7), (⟨"OrderedVersionsModel", "isAtEnd", "(I)Z"⟩, 7), (⟨"OrderedVersionsModel", "goOn", "(I)V"⟩, 7)]
theorem lw_r2 : ∀ q ∈ lw_privs_2, lw_okq q := List.forall_mem_cons.mpr ⟨lw_p16, List.forall_mem_cons.mpr ⟨lw_p17, List.forall_mem_cons.mpr ⟨lw_p18, fun _ h => absurd h List.not_mem_nil⟩⟩⟩
def lw_privs : List (MethodName × Nat) := lw_privs_1 ++ (lw_privs_2)
def lw_tbl : List Cond := k2_sels lw_privs ++ tables_1
theorem lw_privs_ok : ∀ q ∈ lw_privs, lw_okq q := by
  show ∀ q ∈ lw_privs_1 ++ (lw_privs_2), lw_okq q
  exact List.forall_mem_append.mpr ⟨lw_r1, lw_r2⟩
end
section
section EC
/-! the search of a handler past rows that don't take the thing, to the row that takes it -/
def ec_Pass (pl : Platform) (s₀ : State) (d : ClassId) (pc : Nat) (th : ClassId) (y : ExceptionTableEntry) : Prop :=
  covers y pc = false ∨ (y.catchType ≠ 0 ∧ ∃ c, s₀.vm.ClassLinks pl d y.catchType c ∧ s₀.vm.assignable th c = false)
def ec_Take (pl : Platform) (s₀ : State) (d : ClassId) (th : ClassId) (x : ExceptionTableEntry) : Prop :=
  x.catchType = 0 ∨ (x.catchType ≠ 0 ∧ ∃ c, s₀.vm.ClassLinks pl d x.catchType c ∧ s₀.vm.assignable th c = true)
def ec_To (e : Env) (s : State) (f : JFrame) (a : Addr) (h : Handler) (vm' : Vm) : Prop :=
  ∀ (Q : Handler → Pre) (E : CtlPost) (d : Bool) (acts : List Action), wp (findHandler f a) Q E e d acts s ↔ Q h d acts (s.setVm vm')
/-- one row that covers and names a class: taken or passed, by what the tables say -/
theorem ec_row {Q : Handler → Pre} {E : CtlPost} {e : Env} {d : Bool} {acts : List Action} {s : State} {f : JFrame} {a : Addr} {x : ExceptionTableEntry} {t : List ExceptionTableEntry} {c : ClassId} {cell : Cell} (hx : covers x f.pc = true) (h0 : x.catchType ≠ 0)
    (hl : s.vm.ClassLinks e.platform f.method.cls x.catchType c) (hcell : s.heap[a]? = some cell) (hobj : ∀ k, cell.vm ≠ .statics k)
    (hk : ∃ k, s.vm.classes[cell.cls]? = some k) (hc : ∃ k, s.vm.classes[c]? = some k) {r : Bool} (hr : s.vm.assignable cell.cls c = r) :
    wp (findHandler.go f a (x :: t)) Q E e d acts s ↔ (if r = true then Q (.found x.handlerPc) d acts (s.setVm (s.vm.noted f.method.cls x.catchType (.cls c))) else wp (findHandler.go f a t) Q E e d acts (s.setVm (s.vm.noted f.method.cls x.catchType (.cls c)))) := by
  simp only [covers] at hx
  obtain ⟨ha, ht⟩ := (resolveClass_links e.toSetting hl).op (op := VmOp.resolveClass f.method.cls x.catchType) rfl
  have hal : s.vm.Alike (s.vm.noted f.method.cls x.catchType (.cls c)) := (Vm.Alike.refl s.vm).noted _ _ _
  obtain ⟨k1, hk1⟩ := hk
  obtain ⟨k2, hk2⟩ := hc
  obtain ⟨k3, hk3, -⟩ := hal.2.2 _ _ hk1
  obtain ⟨k4, hk4, -⟩ := hal.2.2 _ _ hk2
  have hr2 : (s.vm.noted f.method.cls x.catchType (.cls c)).assignable cell.cls c = r := by rw [hal.assignable]; exact hr
  cases r <;> simp [findHandler.go, hx, h0, ha, ht, hcell, hobj, hk3, hk4, hr2, VmOp.dirties, VmOp.acts]
theorem ec_go {e : Env} {s₀ : State} {f : JFrame} {a : Addr} {cell : Cell} (hobj : ∀ k, cell.vm ≠ .statics k) (hk0 : ∃ k, s₀.vm.classes[cell.cls]? = some k)
    (x : ExceptionTableEntry) (suf : List ExceptionTableEntry) (hx : covers x f.pc = true) (hend : ec_Take e.platform s₀ f.method.cls cell.cls x) :
    ∀ (pre : List ExceptionTableEntry) (S : State), s₀.WarmedH S.vm → S.heap[a]? = some cell → (∀ y ∈ pre, ec_Pass e.platform s₀ f.method.cls f.pc cell.cls y) →
      ∃ vm', s₀.WarmedH vm' ∧ ∀ (Q : Handler → Pre) (E : CtlPost) (d : Bool) (acts : List Action), wp (findHandler.go f a (pre ++ x :: suf)) Q E e d acts S ↔ Q (.found x.handlerPc) d acts (S.setVm vm') := by
  obtain ⟨k0, hk0⟩ := hk0
  intro pre
  induction pre with
  | nil =>
    intro S hW hcell _
    obtain ⟨k1, hk1, -⟩ := hW.alike.2.2 _ _ hk0
    rcases hend with h0 | ⟨h0, c, hl, hfit⟩
    · exact ⟨S.vm, hW, fun Q E d acts => by rw [List.nil_append, _root_.Jvm.W.findHandler_go_any hx h0, State.setVm_self]⟩
    · obtain ⟨dk, _, _, kt, hd, _, _, _, _, hkt, _, hop⟩ := hl.here
      obtain ⟨k2, hk2, -⟩ := hW.alike.2.2 _ _ hkt
      refine ⟨_, hW.noted hd hop (State.rightAt_cls hl), fun Q E d acts => ?_⟩
      rw [List.nil_append, ec_row hx h0 (hW.classLinks hl) hcell hobj ⟨k1, hk1⟩ ⟨k2, hk2⟩ (r := true) (by rw [hW.alike.assignable]; exact hfit), if_pos rfl]
  | cons y ys ih =>
    intro S hW hcell hpass
    obtain ⟨k1, hk1, -⟩ := hW.alike.2.2 _ _ hk0
    have hrest : ∀ z ∈ ys, ec_Pass e.platform s₀ f.method.cls f.pc cell.cls z := fun z hz => hpass z (List.mem_cons_of_mem _ hz)
    cases hcov : covers y f.pc with
    | false =>
      obtain ⟨vm', hW', hq⟩ := ih S hW hcell hrest
      exact ⟨vm', hW', fun Q E d acts => by rw [List.cons_append, _root_.Jvm.W.findHandler_go_skip hcov]; exact hq Q E d acts⟩
    | true =>
      rcases hpass y (List.mem_cons_self ..) with h | ⟨h0, c, hl, hno⟩
      · rw [h] at hcov; cases hcov
      · obtain ⟨dk, _, _, kt, hd, _, _, _, _, hkt, _, hop⟩ := hl.here
        obtain ⟨k2, hk2, -⟩ := hW.alike.2.2 _ _ hkt
        obtain ⟨vm', hW', hq⟩ := ih (S.setVm (S.vm.noted f.method.cls y.catchType (.cls c))) (hW.noted hd hop (State.rightAt_cls hl)) hcell hrest
        refine ⟨vm', hW', fun Q E d acts => ?_⟩
        rw [List.cons_append, ec_row hcov h0 (hW.classLinks hl) hcell hobj ⟨k1, hk1⟩ ⟨k2, hk2⟩ (r := false) (by rw [hW.alike.assignable]; exact hno), if_neg (by decide)]
        exact hq Q E d acts
theorem ec_step {e : Env} {s : State} {a : Addr} {f : JFrame} {r : List Frame} {pc : Nat} {vm' : Vm} (hfind : ec_To e s f a (.found pc) vm') :
    (stepThrowing e s a (.java f :: r)).1 = ((s.setVm vm').setFrames (.java { f with pc := pc, stack := [.ref a] } :: r)) := by
  simp only [stepThrowing, searchFrame, vmDo]
  generalize hr : Sem.go _ e false [] s = res
  obtain ⟨as, rfl, ha⟩ := Sem.eq_ok_of hr (a := Handler.found pc) (s' := s.setVm vm') (acts' := []) (by simp [hfind _ _ _ _])
  rfl
theorem ec_ff (u : State) (vm' : Vm) (F G : List Frame) : ((u.setFrames F).setVm vm').setFrames G = (u.setVm vm').setFrames G := by
  have h1 : (u.setFrames F).setVm vm' = (u.setVm vm').setFrames F := rfl
  rw [h1, State.setFrames_setFrames]
variable {p : Program} {l : Launch} {e : Env} {R : Room} {s : State} {m₀ : MethodId} {args : Array Value} {below : List Frame} {meth : Method} {c : Code} {T : State} {locs : List Loc} {cells slots : Nat}
theorem ec_push (X : Stand p l e R s m₀ args below meth c T locs cells slots) (g : JFrame) (a : Addr) : (T.setTop g).pushFrame (.throwing a) = T.setFrames (.throwing a :: .java g :: below) := by
  obtain ⟨g₁, hfr⟩ := X.frames_eq
  rw [State.pushFrame, State.frames_setTop _ hfr, State.setTop_of_frames _ hfr, State.setFrames_setFrames]
/-- thrown over a frame whose table takes it: the handler's first row is reached -/
theorem ec_caught (X : Stand p l e R s m₀ args below meth c T locs cells slots) (a : Addr) {g : JFrame} (hg : g.method = m₀)
    {cell : Cell} (hcell : T.heap[a]? = some cell) (hobj : cell.vm.isStatics = false) (hk0 : ∃ k, s.vm.classes[cell.cls]? = some k)
    (pre : List ExceptionTableEntry) (x : ExceptionTableEntry) (suf : List ExceptionTableEntry) (hsplit : c.exceptionTable.toList = pre ++ x :: suf)
    (hpass : ∀ y ∈ pre, ec_Pass e.platform s m₀.cls g.pc cell.cls y) (hx : covers x g.pc = true) (hend : ec_Take e.platform s m₀.cls cell.cls x) :
    ∃ vm', Stand p l e R s m₀ args below meth c (T.setVm vm') locs cells slots ∧ Steps p.tables e below ((T.setTop g).pushFrame (.throwing a)) ((T.setVm vm').setTop { g with pc := x.handlerPc, stack := [.ref a] }) := by
  subst hg
  obtain ⟨vm', hW', hq⟩ := ec_go (e := e) (f := g) (a := a) (VmData.ne_statics_of hobj) hk0 x suf hx hend pre ((T.setTop g).pushFrame (.throwing a)) X.warmed hcell hpass
  have hf : ec_To e ((T.setTop g).pushFrame (.throwing a)) g a (.found x.handlerPc) vm' := fun Q E d acts => by
    rw [_root_.Jvm.W.findHandler_eq (s := (T.setTop g).pushFrame (.throwing a)) (meth := meth) (code := c) X.method' X.code, hsplit]; exact hq Q E d acts
  refine ⟨vm', X.noted hW', ?_⟩
  have h := X.here
  obtain ⟨hgo, hw⟩ := h.throwing (g := g) a
  refine Steps.head hgo hw ?_
  rw [stepThread_throwing (frames_entered h.top _), ec_step (s := (T.setTop g).pushFrame (.throwing a)) hf]
  obtain ⟨g₀, hg0⟩ := Option.isSome_iff_exists.mp h.top
  obtain ⟨r, hr⟩ := State.topJava?_eq_some.mp hg0
  have hr2 : (T.setVm vm').frames = .java g₀ :: r := hr
  rw [State.setTop_of_frames _ hr2, hr, List.tail_cons, State.pushFrame, ec_ff, State.setTop_of_frames _ hr, ec_ff]
  exact Steps.refl _
end EC
end
section
/-! ===== BEGIN words of one list among another's, by their places ===== -/
theorem goodIn_r {big : List Cond} (ws : List Cond) (ps : List Nat) (hp : ws = ps.filterMap (fun i => big[i]?)) (h : ws.all goodWord = true) : GoodIn big ws := by
  intro w hw
  have h1 := List.all_eq_true.mp h w hw
  rw [hp] at hw
  obtain ⟨i, -, hi⟩ := List.mem_filterMap.mp hw
  have hm : w ∈ big := by first | exact List.mem_of_getElem? hi | exact List.getElem?_mem hi
  exact ⟨hm, good_of_word h1⟩
theorem goodIn_app {big a b : List Cond} (ha : GoodIn big a) (hb : GoodIn big b) : GoodIn big (a ++ b) := fun w h => (List.mem_append.mp h).elim (ha w) (hb w)
theorem goodIn_ca {big a b : List Cond} {c : Cond} (ha : GoodIn big (c :: a)) (hb : GoodIn big b) : GoodIn big (c :: (a ++ b)) := fun w h => (List.mem_cons.mp h).elim (fun e => ha w (List.mem_cons.mpr (Or.inl e))) (fun h => (List.mem_append.mp h).elim (fun h => ha w (List.mem_cons.mpr (Or.inr h))) (hb w))
theorem goodIn_sub {big ws : List Cond} (hm : ∀ w ∈ ws, w ∈ big) (h : ws.all goodWord = true) : GoodIn big ws := fun w hw => ⟨hm w hw, good_of_word (List.all_eq_true.mp h w hw)⟩
/-! ===== END ===== -/

/-! ===== BEGIN exceptions that leave a method, and their catching by the caller (launches without stack traces) ===== -/
section VXA
/-! The laws vx_back, vx_callV, vx_callS, vx_callSW, vx_throw0, vx_throwS follow proofs of the library, with one case more: JvmDerived/Free/Laws.lean (Back.of_free), Shelf42/LK1.lean (callV, callS), Shelf/KitTraced.lean (throwNew0V, throwNewS). -/
/-- where a method has thrown q: the class by its name, the cell, what was written, the world -/
def vx_T (XC : String → State → State → Prop) (st : State) (q : Addr) (t : State) (mc ms : Nat) (free : Addr → Prop) : Prop :=
  ∃ (E : String) (ce : Cell) (L : List Loc), XC E st t ∧ t.heap[q]? = some ce ∧ ce.vm = .none ∧ st.vm.findClass E = some ce.cls ∧ st.WarmedH t.vm ∧ st.sameButNew ({ t with vm := st.vm } : State) L mc ms ∧ ∀ z ∈ L, free z.base
def vx_Q (Qc : Array Value → State → Outcome → State → Prop) (XC : String → State → State → Prop) (mc ms : Nat) (free : Addr → Prop) : Array Value → State → Outcome → State → Prop := fun a st o t =>
  (Qc a st o t ∧ ∃ L, FrameEnd st o t L mc ms ∧ ∀ q ∈ L, free q.base) ∨ ∃ q, o = .threw q ∧ vx_T XC st q t mc ms free
/-- a callee that returns or throws -/
def vx_Met (l : Launch) (y : MethodName) (ws : List Cond) (rm : Room) (Pc : Array Value → State → Prop) (Qc : Array Value → State → Outcome → State → Prop) (XC : String → State → State → Prop) (mc ms : Nat) (free : Addr → Prop) : Prop :=
  MetFree l y (headSpec ws rm) Pc (fun _ _ _ _ _ => True) (vx_Q Qc XC mc ms free)
def vx_Post (XC : String → State → State → Prop) (mc ms : Nat) (free : Addr → Prop) : Pt → Array Value → Addr → Pt → Prop := fun A a q B =>
  ∃ (g : JFrame) (mk : MethodId) (t : State) (L : List Loc) (E : String) (ce : Cell), B.U.heap = t.heap ∧ B.U.vm = t.vm ∧ XC E (A.U.calling g mk a) t ∧ t.heap[q]? = some ce ∧ ce.vm = .none ∧ A.U.vm.findClass E = some ce.cls ∧ B.locs = A.locs ++ L ∧ (∀ z ∈ L, free z.base) ∧ B.cells = A.cells + mc ∧ B.slots = A.slots + ms
def vx_Back (l : Launch) (R : Room) (p : Program) (e : Env) (below : List Frame) (s : State) (sargs : Array Value) (y : MethodName) (len W9 : Nat)
    (Pre : Pt → Array Value → Prop) (Post : Pt → Array Value → Option Value → Pt → Prop) (PostX : Pt → Array Value → Addr → Pt → Prop) : Prop :=
  ∀ (m : MethodId) (meth : Method) (c : Code) (A : Pt) (g : JFrame) (ig : Instr) (mk : MethodId) (a : Array Value),
    Stand p l e R s m sargs below meth c A.U A.locs A.cells A.slots → g.method = m → g.locals.size = c.maxLocals → decode c.code g.pc = .ok (ig, len) →
    2 * g.monitorRoom + (g.stack.map fun v => v.category).sum ≤ W9 → A.U.methodNamed? y = some mk → Pre A a →
    (∃ (v : Option Value) (B : Pt), Stand p l e R s m sargs below meth c B.U B.locs B.cells B.slots ∧ Post A a v B ∧
      Steps p.tables e below (doInvoke e (A.U.setTop g) [] mk a).1 (B.U.setTop { g with pc := g.pc + len, stack := v.toList ++ g.stack })) ∨
    (∃ (q : Addr) (B : Pt), Stand p l e R s m sargs below meth c B.U B.locs B.cells B.slots ∧ PostX A a q B ∧
      Steps p.tables e below (doInvoke e (A.U.setTop g) [] mk a).1 ((B.U.setTop g).pushFrame (.throwing q)))
section Payer
variable {l : Launch} {R : Room} {p : Program} {e : Env} {below : List Frame} {s : State} {sargs : Array Value} {y : MethodName} {len W9 : Nat}
theorem vx_back {ws : List Cond} {rm : Room} {Pc : Array Value → State → Prop} {Qc : Array Value → State → Outcome → State → Prop} {XC : String → State → State → Prop} {mc ms : Nat} {free : Addr → Prop} {bytes : ByteArray} {maxL : Nat} {ret : Option FieldType}
    (hM : vx_Met l y ws rm Pc Qc XC mc ms free) (hblind : FrameBlind Pc) (hrc : rm.cells = mc) (hrs : rm.slots = ms)
    (hframes : rm.frames + 1 ≤ R.frames) (hlocals : W9 + (maxL + 11) + rm.locals ≤ R.locals)
    (hws : ∀ w ∈ ws, ∀ a' U, s.WarmedH U.vm → w.before a' U = true) (hcode : Cond.code y bytes maxL ret ∈ ws) (hinit : ∀ a' U, s.WarmedH U.vm → (Cond.initialized y.cls).before a' U = true) :
    vx_Back l R p e below s sargs y len W9 (PreOf R mc ms Pc) (PostOf Qc mc ms free) (vx_Post XC mc ms free) := by
  intro m meth c A g ig mk a X hg hsize hdg hW hn hp
  have h1 : (headSpec ws rm).pre.before a A.U = true := atoms_intro fun w hw => hws w hw _ _ X.warmed
  have h2 : (Cond.code y bytes maxL ret).before a A.U = true := hws _ hcode _ _ X.warmed
  have h3 : (Cond.initialized y.cls).before a A.U = true := hinit _ _ X.warmed
  have h4 : A.cells + (headSpec ws rm).room.cells ≤ R.cells := by rw [show (headSpec ws rm).room.cells = mc from hrc]; exact hp.1
  have h5 : A.slots + (headSpec ws rm).room.slots ≤ R.slots := by rw [show (headSpec ws rm).room.slots = ms from hrs]; exact hp.2.1
  have hPc : Pc a (A.U.calling g mk a) := hblind _ _ _ _ hp.2.2
  obtain ⟨U, Ls, c0, s0⟩ := A
  dsimp only [Pt.U, Pt.locs, Pt.cells, Pt.slots] at h1 h2 h3 h4 h5 X hn hPc ⊢
  obtain ⟨methY, cY, hmY, hcY, -, hlY, -, -, -, -⟩ := Cond.code_spec hn h2
  obtain ⟨kY, hkY, -⟩ := className_of_methodNamed hn
  have hinitY : kY.init = .initialized := Cond.initialized_spec (findClass_of_methodNamed hn) hkY h3
  have h : At U g.method c below := by rw [hg]; exact X.here
  have hlocals9 : W9 + (maxL + 11) + (headSpec ws rm).room.locals ≤ R.locals := hlocals
  have happ : (headSpec ws rm).appliesLoose y e.platform (U.calling g mk a) = true :=
    Spec.appliesLoose_calling (g := g) h hdg hn hkY hinitY
      (X.room_calling (g := g) (R' := (headSpec ws rm).room) hsize hmY hcY hframes (by rw [hlY]; omega) h4 h5) h1
  obtain ⟨mid, hmid⟩ := h.above
  have hfr : (U.setTop g).frames = (.java g :: mid) ++ below := by rw [State.frames_setTop' g h.top, hmid]; rfl
  obtain ⟨o, s₂, hsteps, -, hend, hq⟩ := Steps.callFree hM p X.admits X.cas X.clock (acts := []) hfr happ hPc trivial
  have hq' : vx_Q Qc XC mc ms free a (U.calling g mk a) o s₂ := hq
  rw [State.frames_setTop' g h.top] at hend
  obtain ⟨g₀, hg0⟩ := Option.isSome_iff_exists.mp h.top
  obtain ⟨r, hr⟩ := State.topJava?_eq_some.mp hg0
  have hr' : (({ U with heap := s₂.heap, slotsUsed := s₂.slotsUsed } : State).setVm s₂.vm).frames = .java g₀ :: r := hr
  rcases hq' with ⟨hqc, L, hfe, hL⟩ | ⟨q, rfl, E, ce, L, hx, hce, hcv, hcl, hW₂, hsm, hL⟩
  · obtain ⟨⟨v, rfl⟩, hW₂, e2, q2, q3, q4, q5, q6⟩ := id hfe
    have e3 : s₂ = ({ (U.calling g mk a).setFrames s₂.frames with heap := s₂.heap, slotsUsed := s₂.slotsUsed } : State).setVm s₂.vm := by
      have : s₂ = ({ s₂ with vm := (U.calling g mk a).vm } : State).setVm s₂.vm := rfl
      rw [e2] at this
      exact this
    obtain ⟨c₂, i₂, len₂, hc₂, hd₂, hf₂⟩ := hend
    have hW' : U.WarmedH s₂.vm := hW₂
    have hcc : c₂ = c := by
      have h1 : s₂.code? g.method = U.code? g.method := by
        rw [State.code?_eq, State.code?_eq, hW'.alike.method?]
      exact Option.some.inj (hc₂.symm.trans (h1.trans h.code))
    subst hcc
    have hlen : len₂ = len := by rw [hdg] at hd₂; cases hd₂; rfl
    subst hlen
    have hs₂ : s₂ = (({ U with heap := s₂.heap, slotsUsed := s₂.slotsUsed } : State).setVm s₂.vm).setTop { g with pc := g.pc + len₂, stack := v.toList ++ g.stack } := by
      refine e3.trans ?_
      rw [hf₂, State.calling_eq h.top, State.setFrames_setFrames, State.setTop_of_frames _ hr', hr]
      rfl
    have hsame : U.sameButNew ({ U with heap := s₂.heap, slotsUsed := s₂.slotsUsed } : State) L mc ms := by
      refine ⟨?_, q2, q3, q4, q5, q6⟩
      obtain ⟨t, ht, -⟩ := State.frames_cons hr
      show ({ U with heap := s₂.heap, slotsUsed := s₂.slotsUsed } : State) = { U.setFrames U.frames with heap := s₂.heap, slotsUsed := s₂.slotsUsed }
      rw [State.setFrames_self ht]
    subst hg
    refine Or.inl ⟨v, ⟨(({ U with heap := s₂.heap, slotsUsed := s₂.slotsUsed } : State).setVm s₂.vm), Ls ++ L, c0 + mc, s0 + ms⟩,
      ⟨X.admits, X.cas, X.clock, X.frames, X.room, X.hears, X.method, X.code, (X.here.setHeapUsed s₂.heap s₂.slotsUsed).setVm hW'.alike, X.tail, State.WarmedH.trans X.warmed hW', X.limits, X.bytes, X.same.trans (hsame.setVm s.vm)⟩,
      ⟨g, mk, s₂, L, rfl, rfl, hqc, rfl, hL, rfl, rfl⟩, ?_⟩
    show Steps p.tables e below _ ((({ U with heap := s₂.heap, slotsUsed := s₂.slotsUsed } : State).setVm s₂.vm).setTop { g with pc := g.pc + len₂, stack := v.toList ++ g.stack })
    rw [← hs₂]
    exact hsteps
  · obtain ⟨e2, q2, q3, q4, q5, q6⟩ := id hsm
    have e3 : s₂ = ({ (U.calling g mk a).setFrames s₂.frames with heap := s₂.heap, slotsUsed := s₂.slotsUsed } : State).setVm s₂.vm := by
      have : s₂ = ({ s₂ with vm := (U.calling g mk a).vm } : State).setVm s₂.vm := rfl
      rw [e2] at this
      exact this
    have hf₂ : s₂.frames = .throwing q :: .java g :: U.frames.tail := hend
    have hW' : U.WarmedH s₂.vm := hW₂
    have hs₂ : s₂ = ((({ U with heap := s₂.heap, slotsUsed := s₂.slotsUsed } : State).setVm s₂.vm).setTop g).pushFrame (.throwing q) := by
      refine e3.trans ?_
      rw [hf₂, State.calling_eq h.top, State.setFrames_setFrames, State.pushFrame, State.frames_setTop _ hr', State.setTop_of_frames _ hr', State.setFrames_setFrames, hr]
      rfl
    have hsame : U.sameButNew ({ U with heap := s₂.heap, slotsUsed := s₂.slotsUsed } : State) L mc ms := by
      refine ⟨?_, q2, q3, q4, q5, q6⟩
      obtain ⟨t, ht, -⟩ := State.frames_cons hr
      show ({ U with heap := s₂.heap, slotsUsed := s₂.slotsUsed } : State) = { U.setFrames U.frames with heap := s₂.heap, slotsUsed := s₂.slotsUsed }
      rw [State.setFrames_self ht]
    subst hg
    refine Or.inr ⟨q, ⟨(({ U with heap := s₂.heap, slotsUsed := s₂.slotsUsed } : State).setVm s₂.vm), Ls ++ L, c0 + mc, s0 + ms⟩,
      ⟨X.admits, X.cas, X.clock, X.frames, X.room, X.hears, X.method, X.code, (X.here.setHeapUsed s₂.heap s₂.slotsUsed).setVm hW'.alike, X.tail, State.WarmedH.trans X.warmed hW', X.limits, X.bytes, X.same.trans (hsame.setVm s.vm)⟩,
      ⟨g, mk, s₂, L, E, ce, rfl, rfl, hx, hce, hcv, hcl, rfl, hL, rfl, rfl⟩, ?_⟩
    show Steps p.tables e below _ (((({ U with heap := s₂.heap, slotsUsed := s₂.slotsUsed } : State).setVm s₂.vm).setTop g).pushFrame (.throwing q))
    rw [← hs₂]
    exact hsteps
end Payer
section Calls
variable {p : Program} {l : Launch} {e : Env} {R : Room} {s : State} {m : MethodId} {args : Array Value} {below : List Frame} {meth : Method} {c : Code} {T : State} {locs : List Loc} {cells slots : Nat}
theorem vx_callV (X : Stand p l e R s m args below meth c T locs cells slots) (hexec : p.tables.exec = Jvm.exec) {own C : String} {index : Nat} {y : MethodName} {bytes : ByteArray} {maxL : Nat} {ret : Option FieldType}
    (hown : s.vm.findClass own = some m.cls) (hlink : (Cond.methodLink own index y).before args s = true) (hinst : (Cond.instanceMethod y).before args s = true) (hsel : (Cond.selects C y y).before args s = true)
    (hcode : (Cond.code y bytes maxL ret).before args s = true) (hy : y.cls ≠ "java/lang/invoke/MethodHandle" ∧ y.cls ≠ "java/lang/invoke/VarHandle")
    {W9 : Nat} {Pre : Pt → Array Value → Prop} {Post : Pt → Array Value → Option Value → Pt → Prop} {PostX : Pt → Array Value → Addr → Pt → Prop} (hK : vx_Back l R p e below s args y 3 W9 Pre Post PostX)
    {b : Addr} {cellB : Cell} (hcell : T.heap[b]? = some cellB) (hobj : cellB.vm.isStatics = false) (hcls : s.vm.findClass C = some cellB.cls)
    {g : JFrame} (hg : g.method = m) (hsize : g.locals.size = c.maxLocals) {argsL rest : List Value} (hlen : ∀ sig, parseMethodDescriptor y.desc = some sig → argsL.length = sig.parameters.length)
    (hstack : g.stack = argsL.reverse ++ .ref b :: rest) (hW : 2 * g.monitorRoom + (rest.map fun v => v.category).sum ≤ W9) (hdg : decode c.code g.pc = .ok (.invokevirtual index, 3))
    (hpre : ∀ vm₁, s.WarmedH vm₁ → Pre ⟨T.setVm vm₁, locs, cells, slots⟩ (Value.ref b :: argsL).toArray) :
    (∃ (v : Option Value) (vm₁ : Vm) (B : Pt), s.WarmedH vm₁ ∧ Stand p l e R s m args below meth c B.U B.locs B.cells B.slots ∧ Post ⟨T.setVm vm₁, locs, cells, slots⟩ (Value.ref b :: argsL).toArray v B ∧
      ∀ target, Steps p.tables e below (B.U.setTop { g with pc := g.pc + 3, stack := v.toList ++ rest }) target → Steps p.tables e below (T.setTop g) target) ∨
    (∃ (q : Addr) (vm₁ : Vm) (B : Pt), s.WarmedH vm₁ ∧ Stand p l e R s m args below meth c B.U B.locs B.cells B.slots ∧ PostX ⟨T.setVm vm₁, locs, cells, slots⟩ (Value.ref b :: argsL).toArray q B ∧
      Steps p.tables e below (T.setTop g) ((B.U.setTop { g with stack := rest }).pushFrame (.throwing q))) := by
  obtain ⟨mk, methM, hnamed, hmethM, hstM, habM⟩ := Cond.instanceMethod_spec hinst
  obtain ⟨methM', cM, hmethM', -, -, -, -, -, -, hsigM⟩ := Cond.code_spec hnamed hcode
  cases hmethM.symm.trans hmethM'
  obtain ⟨c2, r2, m2, q1, q2, q3, q4, kP, hkP, hkPi⟩ := Cond.selects_spec hsel
  cases hcls.symm.trans q1
  cases (State.methodFound?_of_named hnamed hy).symm.trans q2
  cases hnamed.symm.trans q3
  have hselP : selectMethod e.platform s.vm cellB.cls mk = .method mk := by rw [Launch.admits_selectMethod X.admits]; exact q4
  obtain ⟨vm₁, X₁, hstep₁⟩ := X.invokevirtual hexec hown hlink hnamed hmethM hstM hkP hkPi hy (a := b) (cell := cellB) hcell
    (fun z h => by rw [h] at hobj; cases hobj) hselP hmethM habM hkP hkPi (g := g) hg (argsL := argsL) (rest := rest) (hlen _ hsigM) hstack hdg
  rcases hK m meth c ⟨T.setVm vm₁, locs, cells, slots⟩ { g with stack := rest } (.invokevirtual index) mk (Value.ref b :: argsL).toArray X₁ hg hsize hdg hW (X₁.named hnamed) (hpre vm₁ X₁.warmed) with ⟨v, B, X', hpost, hsteps⟩ | ⟨q, B, X', hpost, hsteps⟩
  · exact Or.inl ⟨v, vm₁, B, X₁.warmed, X', hpost, fun target h => hstep₁ _ fun acts => by rw [doInvoke_state]; exact hsteps.trans h⟩
  · exact Or.inr ⟨q, vm₁, B, X₁.warmed, X', hpost, hstep₁ _ fun acts => by rw [doInvoke_state]; exact hsteps⟩
theorem vx_callS (X : Stand p l e R s m args below meth c T locs cells slots) (hexec : p.tables.exec = Jvm.exec) {own : String} {index : Nat} {y : MethodName} {bytes : ByteArray} {maxL : Nat} {ret : Option FieldType}
    (hown : s.vm.findClass own = some m.cls) (hlink : (Cond.methodLink own index y).before args s = true) (hstat : (Cond.static y).before args s = true) (hinit : (Cond.initialized y.cls).before args s = true)
    (hcode : (Cond.code y bytes maxL ret).before args s = true) (hy : y.cls ≠ "java/lang/invoke/MethodHandle" ∧ y.cls ≠ "java/lang/invoke/VarHandle")
    {W9 : Nat} {Pre : Pt → Array Value → Prop} {Post : Pt → Array Value → Option Value → Pt → Prop} {PostX : Pt → Array Value → Addr → Pt → Prop} (hK : vx_Back l R p e below s args y 3 W9 Pre Post PostX)
    {g : JFrame} (hg : g.method = m) (hsize : g.locals.size = c.maxLocals) {argsL rest : List Value} (hlen : ∀ sig, parseMethodDescriptor y.desc = some sig → argsL.length = sig.parameters.length)
    (hstack : g.stack = argsL.reverse ++ rest) (hW : 2 * g.monitorRoom + (rest.map fun v => v.category).sum ≤ W9) (hdg : decode c.code g.pc = .ok (.invokestatic index, 3))
    (hpre : ∀ vm₁, s.WarmedH vm₁ → Pre ⟨T.setVm vm₁, locs, cells, slots⟩ argsL.toArray) :
    (∃ (v : Option Value) (vm₁ : Vm) (B : Pt), s.WarmedH vm₁ ∧ Stand p l e R s m args below meth c B.U B.locs B.cells B.slots ∧ Post ⟨T.setVm vm₁, locs, cells, slots⟩ argsL.toArray v B ∧
      ∀ target, Steps p.tables e below (B.U.setTop { g with pc := g.pc + 3, stack := v.toList ++ rest }) target → Steps p.tables e below (T.setTop g) target) ∨
    (∃ (q : Addr) (vm₁ : Vm) (B : Pt), s.WarmedH vm₁ ∧ Stand p l e R s m args below meth c B.U B.locs B.cells B.slots ∧ PostX ⟨T.setVm vm₁, locs, cells, slots⟩ argsL.toArray q B ∧
      Steps p.tables e below (T.setTop g) ((B.U.setTop { g with stack := rest }).pushFrame (.throwing q))) := by
  obtain ⟨mk, hnamed⟩ := Cond.code_named hcode
  obtain ⟨methM, cM, hmethM, -, -, -, -, -, -, hsigM⟩ := Cond.code_spec hnamed hcode
  have hstatic : methM.isStatic = true := Cond.static_spec hnamed hmethM hstat
  obtain ⟨kP, hkP, -⟩ := className_of_methodNamed hnamed
  have hinitP : kP.init = .initialized := Cond.initialized_spec (findClass_of_methodNamed hnamed) hkP hinit
  obtain ⟨vm₁, X₁, hstep₁⟩ := X.invokestatic hexec hown hlink hnamed hmethM hstatic hkP hinitP hy (g := g) hg (argsL := argsL) (rest := rest) (hlen _ hsigM) hstack hdg
  rcases hK m meth c ⟨T.setVm vm₁, locs, cells, slots⟩ { g with stack := rest } (.invokestatic index) mk argsL.toArray X₁ hg hsize hdg hW (X₁.named hnamed) (hpre vm₁ X₁.warmed) with ⟨v, B, X', hpost, hsteps⟩ | ⟨q, B, X', hpost, hsteps⟩
  · exact Or.inl ⟨v, vm₁, B, X₁.warmed, X', hpost, fun target h => hstep₁ _ fun acts => by rw [doInvoke_state]; exact hsteps.trans h⟩
  · exact Or.inr ⟨q, vm₁, B, X₁.warmed, X', hpost, hstep₁ _ fun acts => by rw [doInvoke_state]; exact hsteps⟩
end Calls
theorem vx_cls {s : State} {T : State} {vm₁ : Vm} {E : String} {k : ClassId} (hW : s.WarmedH vm₁) (h : (T.setVm vm₁).vm.findClass E = some k) : s.vm.findClass E = some k := by
  have h1 : vm₁.findClass E = some k := h
  rw [hW.alike.findClass] at h1
  exact h1
/-- the method's frame g, with q thrown over it -/
def vx_W (p : Program) (l : Launch) (e : Env) (R : Room) (s : State) (m : MethodId) (args : Array Value) (below : List Frame) (meth : Method) (c : Code) (H : Heap) (locs : List Loc) (cells slots : Nat) (Q : State → Prop) (g : JFrame) (q : Addr) : Prop :=
  ∀ T : State, T.heap = H → Stand p l e R s m args below meth c T locs cells slots → ∃ t, Steps p.tables e below ((T.setTop g).pushFrame (.throwing q)) t ∧ Q t
def vx_Run (p : Program) (l : Launch) (e : Env) (R : Room) (s : State) (m : MethodId) (args : Array Value) (below : List Frame) (meth : Method) (c : Code) (H : Heap) (locs : List Loc) (cells slots mc ms : Nat) (g : JFrame) (rest : List Value) (Qa : State → Outcome → State → Prop) (XC : String → State → State → Prop) (free : Addr → Prop) : Prop :=
  ∀ T : State, T.heap = H → Stand p l e R s m args below meth c T locs cells slots →
    (∃ (v : Option Value) (st₀ t T' : State) (L : List Loc), st₀.heap = H ∧ Stand p l e R s m args below meth c T' (locs ++ L) (cells + mc) (slots + ms) ∧ (∀ q ∈ L, free q.base) ∧ T'.heap = t.heap ∧ T'.vm = t.vm ∧ Qa st₀ (.returned v) t ∧
      Goes p e below T g T' { g with pc := g.pc + 3, stack := v.toList ++ rest }) ∨
    (∃ (q : Addr) (st₀ t T' : State) (L : List Loc) (E : String) (ce : Cell), st₀.heap = H ∧ Stand p l e R s m args below meth c T' (locs ++ L) (cells + mc) (slots + ms) ∧ (∀ z ∈ L, free z.base) ∧ T'.heap = t.heap ∧ T'.vm = t.vm ∧ XC E st₀ t ∧ t.heap[q]? = some ce ∧ ce.vm = .none ∧ s.vm.findClass E = some ce.cls ∧
      Steps p.tables e below (T.setTop g) ((T'.setTop { g with stack := rest }).pushFrame (.throwing q)))
def vx_X {S : Type} (px : S → Prop) (B : String → S → State → Prop) (A : Nat → Prop) : String → State → State → Prop := fun E st t => ∃ u : S, px u ∧ B E u t ∧ va_F A st t
section Runs
variable {p : Program} {l : Launch} {e : Env} {R : Room} {s : State} {m : MethodId} {args : Array Value} {below : List Frame} {meth : Method} {c : Code} {H : Heap} {locs : List Loc} {cells slots : Nat}
variable {y : MethodName} {bytes cc : ByteArray} {maxL nL mc ms n index : Nat} {ret : Option FieldType} {ws : List Cond} {rm : Room} {Pc : Array Value → State → Prop} {Qc : Array Value → State → Outcome → State → Prop} {XC : String → State → State → Prop} {free : Addr → Prop} {Ts : List Cond} {own C : String} {b : Addr} {As rest : List Value} {g : JFrame}
theorem vx_callBack (cb : CallB R s args own index y bytes maxL ret ws rm mc ms n) (hM : vx_Met l y ws rm Pc Qc XC mc ms free) (hbl : FrameBlind Pc) : vx_Back l R p e below s args y 3 8 (PreOf R mc ms Pc) (PostOf Qc mc ms free) (vx_Post XC mc ms free) := by
  obtain ⟨hrc, hrs, hfr, hlo, hws, hcw, -, hini, -⟩ := cb
  exact vx_back (bytes := bytes) (maxL := maxL) (ret := ret) hM hbl hrc hrs hfr hlo hws hcw (fun a' U hW => word_at hW (Or.inl (by first | rfl | simp [Cond.onTables, Cond.keeps, Cond.steady])) hini)
theorem vx_runV (S : CallFix p m c cc nL s args Ts own) (hM : vx_Met l y ws rm Pc Qc XC mc ms free) (cw : CallW R s args own C index y bytes maxL ret ws rm mc ms n) (hp : PreV s H C b Pc As)
    (hg : g.method = m) (hn : As.length = n) (hsize : g.locals.size = nL) (hstack : g.stack = As.reverse ++ .ref b :: rest) (hW : 2 * g.monitorRoom + (rest.map fun v => v.category).sum ≤ 8) (hdg : decode cc g.pc = .ok (.invokevirtual index, 3)) (hf : cells + mc ≤ R.cells ∧ slots + ms ≤ R.slots) :
    vx_Run p l e R s m args below meth c H locs cells slots mc ms g rest (Qc (Value.ref b :: As).toArray) XC free := by
  have hK : vx_Back l R p e below s args y 3 8 (PreOf R mc ms Pc) (PostOf Qc mc ms free) (vx_Post XC mc ms free) := vx_callBack cw.1 hM hp.1
  obtain ⟨⟨-, -, -, -, -, -, hcode, -, hy, hlen, hl⟩, hin, hse⟩ := cw
  obtain ⟨hx, hb, hml, ho, -⟩ := S
  obtain ⟨-, ⟨cellB, hcB, hoB, hclB⟩, hPc⟩ := hp
  intro T hT X
  rcases vx_callV X hx (C := C) (bytes := bytes) (maxL := maxL) (ret := ret) ho hl hin hse hcode hy hK (by rw [hT]; exact hcB) hoB hclB hg (hsize.trans hml.symm) (argsL := As) (rest := rest) (fun sig h => hn.trans (hlen sig h)) hstack hW (by rw [hb]; exact hdg)
    (fun vm₁ hW₁ => ⟨hf.1, hf.2, hPc (T.setVm vm₁) hT hW₁⟩) with ⟨v, vm₁, ⟨U', l2, c2, s2⟩, hW₁, X', ⟨g', mk, t, L, e1, e2, hq, h1, hL, h2, h3⟩, st⟩ | ⟨q, vm₁, ⟨U', l2, c2, s2⟩, hW₁, X', ⟨g', mk, t, L, E, ce, e1, e2, hq, hce, hcv, hcl, h1, hL, h2, h3⟩, st⟩
  · dsimp only [Pt.U, Pt.locs, Pt.cells, Pt.slots] at X' e1 e2 h1 h2 h3 st
    subst h1; subst h2; subst h3
    exact Or.inl ⟨v, (T.setVm vm₁).calling g' mk (Value.ref b :: As).toArray, t, U', L, hT, X', hL, e1, e2, hq, st⟩
  · dsimp only [Pt.U, Pt.locs, Pt.cells, Pt.slots] at X' e1 e2 h1 h2 h3 st hcl
    subst h1; subst h2; subst h3
    exact Or.inr ⟨q, (T.setVm vm₁).calling g' mk (Value.ref b :: As).toArray, t, U', L, E, ce, hT, X', hL, e1, e2, hq, hce, hcv, vx_cls hW₁ hcl, st⟩
theorem vx_runS (S : CallFix p m c cc nL s args Ts own) (hM : vx_Met l y ws rm Pc Qc XC mc ms free) (cw : CallB R s args own index y bytes maxL ret ws rm mc ms n ∧ (Cond.static y).before args s = true) (hp : PreS s H Pc As)
    (hg : g.method = m) (hn : As.length = n) (hsize : g.locals.size = nL) (hstack : g.stack = As.reverse ++ rest) (hW : 2 * g.monitorRoom + (rest.map fun v => v.category).sum ≤ 8) (hdg : decode cc g.pc = .ok (.invokestatic index, 3)) (hf : cells + mc ≤ R.cells ∧ slots + ms ≤ R.slots) :
    vx_Run p l e R s m args below meth c H locs cells slots mc ms g rest (Qc As.toArray) XC free := by
  have hK : vx_Back l R p e below s args y 3 8 (PreOf R mc ms Pc) (PostOf Qc mc ms free) (vx_Post XC mc ms free) := vx_callBack cw.1 hM hp.1
  obtain ⟨⟨-, -, -, -, -, -, hcode, hini, hy, hlen, hl⟩, hstt⟩ := cw
  obtain ⟨hx, hb, hml, ho, -⟩ := S
  intro T hT X
  rcases vx_callS X hx (bytes := bytes) (maxL := maxL) (ret := ret) ho hl hstt hini hcode hy hK hg (hsize.trans hml.symm) (argsL := As) (rest := rest) (fun sig h => hn.trans (hlen sig h)) hstack hW (by rw [hb]; exact hdg)
    (fun vm₁ hW₁ => ⟨hf.1, hf.2, hp.2 (T.setVm vm₁) hT hW₁⟩) with ⟨v, vm₁, ⟨U', l2, c2, s2⟩, hW₁, X', ⟨g', mk, t, L, e1, e2, hq, h1, hL, h2, h3⟩, st⟩ | ⟨q, vm₁, ⟨U', l2, c2, s2⟩, hW₁, X', ⟨g', mk, t, L, E, ce, e1, e2, hq, hce, hcv, hcl, h1, hL, h2, h3⟩, st⟩
  · dsimp only [Pt.U, Pt.locs, Pt.cells, Pt.slots] at X' e1 e2 h1 h2 h3 st
    subst h1; subst h2; subst h3
    exact Or.inl ⟨v, (T.setVm vm₁).calling g' mk As.toArray, t, U', L, hT, X', hL, e1, e2, hq, st⟩
  · dsimp only [Pt.U, Pt.locs, Pt.cells, Pt.slots] at X' e1 e2 h1 h2 h3 st hcl
    subst h1; subst h2; subst h3
    exact Or.inr ⟨q, (T.setVm vm₁).calling g' mk As.toArray, t, U', L, E, ce, hT, X', hL, e1, e2, hq, hce, hcv, vx_cls hW₁ hcl, st⟩
end Runs
section Rows
variable {p : Program} {l : Launch} {e : Env} {R : Room} {s : State} {m : MethodId} {args : Array Value} {below : List Frame} {meth : Method} {c : Code} {H : Heap} {locs : List Loc} {cells slots : Nat} {Q : State → Prop}
variable {mc ms : Nat} {free : Addr → Prop} {A0 A1 : Nat → Prop} {H0 : Heap} {a : Array Value} {pc : Nat} {ls : Array Slot} {st0 rest : List Value}
theorem vx_keep {st₀ t T' : State} {L : List Loc} (h0 : st₀.heap = H) (e1 : T'.heap = t.heap) (hS : va_S A0 H0 H locs) (hA : ∀ q, q < H.size → A1 q → A0 q) (hf : ∀ q, free q → A0 q) (hL : ∀ q ∈ L, free q.base) (hF : va_F A1 st₀ t) :
    H.size ≤ T'.heap.size ∧ (∀ q : Nat, q < H.size → ¬ A1 q → T'.heap[q]? = H[q]?) ∧ va_S A0 H0 T'.heap (locs ++ L) := by
  obtain ⟨hz, hk⟩ := hF
  rw [h0] at hz hk
  exact ⟨by rw [e1]; exact hz, fun q h1 h2 => by rw [e1]; exact hk q h1 h2,
    ⟨Nat.le_trans hS.1 (by rw [e1]; exact hz), fun q h1 h2 => by rw [e1, hk q (Nat.lt_of_lt_of_le h1 hS.1) (fun z => h2 (hA q (Nat.lt_of_lt_of_le h1 hS.1) z))]; exact hS.2.1 q h1 h2, fun q hq => by
      rcases List.mem_append.mp hq with h | h
      · exact hS.2.2 q h
      · exact hf _ (hL q h)⟩⟩
theorem vx_calli {S SX : Type} {post : Int32 → S → Prop} {px : SX → Prop} {B : S → State → Prop} {BX : String → SX → State → Prop} {AX : Nat → Prop} (hr : vx_Run p l e R s m args below meth c H locs cells slots mc ms (F0 m pc ls st0) rest (va_Qi post B A1 a) (vx_X px BX AX) free) (hS : va_S A0 H0 H locs) (hA : ∀ q, q < H.size → A1 q → A0 q) (hf : ∀ q, free q → A0 q) (hAX : ∀ q, q < H.size → AX q → A0 q)
    (kx : ∀ (E : String) (ce : Cell) (q9 : Addr) (u : SX) (t : State) (H1 : Heap) (locs1 : List Loc), t.heap = H1 → s.vm.Alike t.vm → px u → BX E u t → H.size ≤ H1.size → (∀ q : Nat, q < H.size → ¬ AX q → H1[q]? = H[q]?) → va_S A0 H0 H1 locs1 → H1[q9]? = some ce → ce.vm = .none → s.vm.findClass E = some ce.cls → vx_W p l e R s m args below meth c H1 locs1 (cells + mc) (slots + ms) Q (F0 m pc ls rest) q9)
    (kk : ∀ (r : Int32) (u : S) (t : State) (H1 : Heap) (locs1 : List Loc), t.heap = H1 → s.vm.Alike t.vm → post r u → B u t → H.size ≤ H1.size → (∀ q : Nat, q < H.size → ¬ A1 q → H1[q]? = H[q]?) → va_S A0 H0 H1 locs1 → W p l e R s m args below meth c H1 locs1 (cells + mc) (slots + ms) Q (F0 m (pc + 3) ls (.int r :: rest))) : W p l e R s m args below meth c H locs cells slots Q (F0 m pc ls st0) := by
  intro T hT X
  rcases hr T hT X with ⟨v, st₀, t, T', L, h0, X', hL, e1, e2, ⟨⟨r, u, hv, hp, hb⟩, hF⟩, st⟩ | ⟨q, st₀, t, T', L, E, ce, h0, X', hL, e1, e2, ⟨u, hp, hb, hF⟩, hce, hcv, hcl, st⟩
  · cases hv
    obtain ⟨k1, k2, k3⟩ := vx_keep h0 e1 hS hA hf hL hF
    obtain ⟨t2, a1, b1⟩ := kk r u t T'.heap (locs ++ L) e1.symm (by rw [← e2]; exact X'.warmed.alike) hp hb k1 k2 k3 T' rfl X'
    exact ⟨t2, st t2 a1, b1⟩
  · obtain ⟨k1, k2, k3⟩ := vx_keep h0 e1 hS hAX hf hL hF
    obtain ⟨t2, a1, b1⟩ := kx E ce q u t T'.heap (locs ++ L) e1.symm (by rw [← e2]; exact X'.warmed.alike) hp hb k1 k2 k3 (by rw [e1]; exact hce) hcv hcl T' rfl X'
    exact ⟨t2, st.trans a1, b1⟩
theorem vx_calll {S SX : Type} {post : Int64 → S → Prop} {px : SX → Prop} {B : S → State → Prop} {BX : String → SX → State → Prop} {AX : Nat → Prop} (hr : vx_Run p l e R s m args below meth c H locs cells slots mc ms (F0 m pc ls st0) rest (va_Ql post B A1 a) (vx_X px BX AX) free) (hS : va_S A0 H0 H locs) (hA : ∀ q, q < H.size → A1 q → A0 q) (hf : ∀ q, free q → A0 q) (hAX : ∀ q, q < H.size → AX q → A0 q)
    (kx : ∀ (E : String) (ce : Cell) (q9 : Addr) (u : SX) (t : State) (H1 : Heap) (locs1 : List Loc), t.heap = H1 → s.vm.Alike t.vm → px u → BX E u t → H.size ≤ H1.size → (∀ q : Nat, q < H.size → ¬ AX q → H1[q]? = H[q]?) → va_S A0 H0 H1 locs1 → H1[q9]? = some ce → ce.vm = .none → s.vm.findClass E = some ce.cls → vx_W p l e R s m args below meth c H1 locs1 (cells + mc) (slots + ms) Q (F0 m pc ls rest) q9)
    (kk : ∀ (r : Int64) (u : S) (t : State) (H1 : Heap) (locs1 : List Loc), t.heap = H1 → s.vm.Alike t.vm → post r u → B u t → H.size ≤ H1.size → (∀ q : Nat, q < H.size → ¬ A1 q → H1[q]? = H[q]?) → va_S A0 H0 H1 locs1 → W p l e R s m args below meth c H1 locs1 (cells + mc) (slots + ms) Q (F0 m (pc + 3) ls (.long r :: rest))) : W p l e R s m args below meth c H locs cells slots Q (F0 m pc ls st0) := by
  intro T hT X
  rcases hr T hT X with ⟨v, st₀, t, T', L, h0, X', hL, e1, e2, ⟨⟨r, u, hv, hp, hb⟩, hF⟩, st⟩ | ⟨q, st₀, t, T', L, E, ce, h0, X', hL, e1, e2, ⟨u, hp, hb, hF⟩, hce, hcv, hcl, st⟩
  · cases hv
    obtain ⟨k1, k2, k3⟩ := vx_keep h0 e1 hS hA hf hL hF
    obtain ⟨t2, a1, b1⟩ := kk r u t T'.heap (locs ++ L) e1.symm (by rw [← e2]; exact X'.warmed.alike) hp hb k1 k2 k3 T' rfl X'
    exact ⟨t2, st t2 a1, b1⟩
  · obtain ⟨k1, k2, k3⟩ := vx_keep h0 e1 hS hAX hf hL hF
    obtain ⟨t2, a1, b1⟩ := kx E ce q u t T'.heap (locs ++ L) e1.symm (by rw [← e2]; exact X'.warmed.alike) hp hb k1 k2 k3 (by rw [e1]; exact hce) hcv hcl T' rfl X'
    exact ⟨t2, st.trans a1, b1⟩
theorem vx_callf {S SX : Type} {post : UInt32 → S → Prop} {px : SX → Prop} {B : S → State → Prop} {BX : String → SX → State → Prop} {AX : Nat → Prop} (hr : vx_Run p l e R s m args below meth c H locs cells slots mc ms (F0 m pc ls st0) rest (va_Qf post B A1 a) (vx_X px BX AX) free) (hS : va_S A0 H0 H locs) (hA : ∀ q, q < H.size → A1 q → A0 q) (hf : ∀ q, free q → A0 q) (hAX : ∀ q, q < H.size → AX q → A0 q)
    (kx : ∀ (E : String) (ce : Cell) (q9 : Addr) (u : SX) (t : State) (H1 : Heap) (locs1 : List Loc), t.heap = H1 → s.vm.Alike t.vm → px u → BX E u t → H.size ≤ H1.size → (∀ q : Nat, q < H.size → ¬ AX q → H1[q]? = H[q]?) → va_S A0 H0 H1 locs1 → H1[q9]? = some ce → ce.vm = .none → s.vm.findClass E = some ce.cls → vx_W p l e R s m args below meth c H1 locs1 (cells + mc) (slots + ms) Q (F0 m pc ls rest) q9)
    (kk : ∀ (r : UInt32) (u : S) (t : State) (H1 : Heap) (locs1 : List Loc), t.heap = H1 → s.vm.Alike t.vm → post r u → B u t → H.size ≤ H1.size → (∀ q : Nat, q < H.size → ¬ A1 q → H1[q]? = H[q]?) → va_S A0 H0 H1 locs1 → W p l e R s m args below meth c H1 locs1 (cells + mc) (slots + ms) Q (F0 m (pc + 3) ls (.float r :: rest))) : W p l e R s m args below meth c H locs cells slots Q (F0 m pc ls st0) := by
  intro T hT X
  rcases hr T hT X with ⟨v, st₀, t, T', L, h0, X', hL, e1, e2, ⟨⟨r, u, hv, hp, hb⟩, hF⟩, st⟩ | ⟨q, st₀, t, T', L, E, ce, h0, X', hL, e1, e2, ⟨u, hp, hb, hF⟩, hce, hcv, hcl, st⟩
  · cases hv
    obtain ⟨k1, k2, k3⟩ := vx_keep h0 e1 hS hA hf hL hF
    obtain ⟨t2, a1, b1⟩ := kk r u t T'.heap (locs ++ L) e1.symm (by rw [← e2]; exact X'.warmed.alike) hp hb k1 k2 k3 T' rfl X'
    exact ⟨t2, st t2 a1, b1⟩
  · obtain ⟨k1, k2, k3⟩ := vx_keep h0 e1 hS hAX hf hL hF
    obtain ⟨t2, a1, b1⟩ := kx E ce q u t T'.heap (locs ++ L) e1.symm (by rw [← e2]; exact X'.warmed.alike) hp hb k1 k2 k3 (by rw [e1]; exact hce) hcv hcl T' rfl X'
    exact ⟨t2, st.trans a1, b1⟩
theorem vx_calld {S SX : Type} {post : UInt64 → S → Prop} {px : SX → Prop} {B : S → State → Prop} {BX : String → SX → State → Prop} {AX : Nat → Prop} (hr : vx_Run p l e R s m args below meth c H locs cells slots mc ms (F0 m pc ls st0) rest (va_Qd post B A1 a) (vx_X px BX AX) free) (hS : va_S A0 H0 H locs) (hA : ∀ q, q < H.size → A1 q → A0 q) (hf : ∀ q, free q → A0 q) (hAX : ∀ q, q < H.size → AX q → A0 q)
    (kx : ∀ (E : String) (ce : Cell) (q9 : Addr) (u : SX) (t : State) (H1 : Heap) (locs1 : List Loc), t.heap = H1 → s.vm.Alike t.vm → px u → BX E u t → H.size ≤ H1.size → (∀ q : Nat, q < H.size → ¬ AX q → H1[q]? = H[q]?) → va_S A0 H0 H1 locs1 → H1[q9]? = some ce → ce.vm = .none → s.vm.findClass E = some ce.cls → vx_W p l e R s m args below meth c H1 locs1 (cells + mc) (slots + ms) Q (F0 m pc ls rest) q9)
    (kk : ∀ (r : UInt64) (u : S) (t : State) (H1 : Heap) (locs1 : List Loc), t.heap = H1 → s.vm.Alike t.vm → post r u → B u t → H.size ≤ H1.size → (∀ q : Nat, q < H.size → ¬ A1 q → H1[q]? = H[q]?) → va_S A0 H0 H1 locs1 → W p l e R s m args below meth c H1 locs1 (cells + mc) (slots + ms) Q (F0 m (pc + 3) ls (.double r :: rest))) : W p l e R s m args below meth c H locs cells slots Q (F0 m pc ls st0) := by
  intro T hT X
  rcases hr T hT X with ⟨v, st₀, t, T', L, h0, X', hL, e1, e2, ⟨⟨r, u, hv, hp, hb⟩, hF⟩, st⟩ | ⟨q, st₀, t, T', L, E, ce, h0, X', hL, e1, e2, ⟨u, hp, hb, hF⟩, hce, hcv, hcl, st⟩
  · cases hv
    obtain ⟨k1, k2, k3⟩ := vx_keep h0 e1 hS hA hf hL hF
    obtain ⟨t2, a1, b1⟩ := kk r u t T'.heap (locs ++ L) e1.symm (by rw [← e2]; exact X'.warmed.alike) hp hb k1 k2 k3 T' rfl X'
    exact ⟨t2, st t2 a1, b1⟩
  · obtain ⟨k1, k2, k3⟩ := vx_keep h0 e1 hS hAX hf hL hF
    obtain ⟨t2, a1, b1⟩ := kx E ce q u t T'.heap (locs ++ L) e1.symm (by rw [← e2]; exact X'.warmed.alike) hp hb k1 k2 k3 (by rw [e1]; exact hce) hcv hcl T' rfl X'
    exact ⟨t2, st.trans a1, b1⟩
theorem vx_callv {S SX : Type} {post : S → Prop} {px : SX → Prop} {B : S → State → Prop} {BX : String → SX → State → Prop} {AX : Nat → Prop} (hr : vx_Run p l e R s m args below meth c H locs cells slots mc ms (F0 m pc ls st0) rest (va_Qv post B A1 a) (vx_X px BX AX) free) (hS : va_S A0 H0 H locs) (hA : ∀ q, q < H.size → A1 q → A0 q) (hf : ∀ q, free q → A0 q) (hAX : ∀ q, q < H.size → AX q → A0 q)
    (kx : ∀ (E : String) (ce : Cell) (q9 : Addr) (u : SX) (t : State) (H1 : Heap) (locs1 : List Loc), t.heap = H1 → s.vm.Alike t.vm → px u → BX E u t → H.size ≤ H1.size → (∀ q : Nat, q < H.size → ¬ AX q → H1[q]? = H[q]?) → va_S A0 H0 H1 locs1 → H1[q9]? = some ce → ce.vm = .none → s.vm.findClass E = some ce.cls → vx_W p l e R s m args below meth c H1 locs1 (cells + mc) (slots + ms) Q (F0 m pc ls rest) q9)
    (kk : ∀ (u : S) (t : State) (H1 : Heap) (locs1 : List Loc), t.heap = H1 → s.vm.Alike t.vm → post u → B u t → H.size ≤ H1.size → (∀ q : Nat, q < H.size → ¬ A1 q → H1[q]? = H[q]?) → va_S A0 H0 H1 locs1 → W p l e R s m args below meth c H1 locs1 (cells + mc) (slots + ms) Q (F0 m (pc + 3) ls (rest))) : W p l e R s m args below meth c H locs cells slots Q (F0 m pc ls st0) := by
  intro T hT X
  rcases hr T hT X with ⟨v, st₀, t, T', L, h0, X', hL, e1, e2, ⟨⟨u, hv, hp, hb⟩, hF⟩, st⟩ | ⟨q, st₀, t, T', L, E, ce, h0, X', hL, e1, e2, ⟨u, hp, hb, hF⟩, hce, hcv, hcl, st⟩
  · cases hv
    obtain ⟨k1, k2, k3⟩ := vx_keep h0 e1 hS hA hf hL hF
    obtain ⟨t2, a1, b1⟩ := kk u t T'.heap (locs ++ L) e1.symm (by rw [← e2]; exact X'.warmed.alike) hp hb k1 k2 k3 T' rfl X'
    exact ⟨t2, st t2 a1, b1⟩
  · obtain ⟨k1, k2, k3⟩ := vx_keep h0 e1 hS hAX hf hL hF
    obtain ⟨t2, a1, b1⟩ := kx E ce q u t T'.heap (locs ++ L) e1.symm (by rw [← e2]; exact X'.warmed.alike) hp hb k1 k2 k3 (by rw [e1]; exact hce) hcv hcl T' rfl X'
    exact ⟨t2, st.trans a1, b1⟩
/-- caught by the row x of this method's table; the rows ahead don't take it -/
theorem vx_catch {own name : String} {E : String} {ce : Cell} {q : Addr} (hown : s.vm.findClass own = some m.cls) (pre : List ExceptionTableEntry) (x : ExceptionTableEntry) (suf : List ExceptionTableEntry) (hsplit : c.exceptionTable.toList = pre ++ x :: suf)
    (hpass : ∀ z ∈ pre, covers z pc = false ∨ (z.catchType ≠ 0 ∧ ∃ nm : String, (Cond.classLink own z.catchType nm).before args s = true ∧ va_Nc E nm s)) (hx : covers x pc = true) (h0 : x.catchType ≠ 0)
    (hlink : (Cond.classLink own x.catchType name).before args s = true) (hcast : (Cond.castable E name).before args s = true) (hcell : H[q]? = some ce) (hv : ce.vm = .none) (hcl : s.vm.findClass E = some ce.cls)
    (kk : W p l e R s m args below meth c H locs cells slots Q (F0 m x.handlerPc ls [.ref q])) : vx_W p l e R s m args below meth c H locs cells slots Q (F0 m pc ls rest) q := by
  intro T hT X
  have hpl : e.platform.magicAccessors = ({} : Platform).magicAccessors := by rw [X.admits.platform]
  obtain ⟨c3, c4, hc3, hc4, hasg⟩ := Cond.castable_spec hcast
  cases Option.some.inj (hc3.symm.trans hcl)
  obtain ⟨c5, hc5, hcl5⟩ := Cond.classLink_spec hown hlink e.platform hpl
  cases Option.some.inj (hc4.symm.trans hc5)
  obtain ⟨vm', X', st⟩ := ec_caught X q (g := F0 m pc ls rest) rfl (by rw [hT]; exact hcell) (by rw [hv]; rfl) (by obtain ⟨k9, h9, -⟩ := Vm.findClass_spec hcl; exact ⟨k9, h9⟩) pre x suf hsplit
    (fun z hz => by
      rcases hpass z hz with h | ⟨hz0, nm, hl1, hn1⟩
      · exact Or.inl h
      · obtain ⟨c6, hc6, hcl6⟩ := Cond.classLink_spec hown hl1 e.platform hpl
        obtain ⟨a8, b8, h1, h2, h3⟩ := hn1
        cases Option.some.inj (h1.symm.trans hcl)
        cases Option.some.inj (h2.symm.trans hc6)
        exact Or.inr ⟨hz0, _, hcl6, h3⟩) hx (Or.inr ⟨h0, c4, hcl5, hasg⟩)
  obtain ⟨t, a1, b1⟩ := kk (T.setVm vm') hT X'
  exact ⟨t, st.trans a1, b1⟩
end Rows
section Ends
variable {p : Program} {l : Launch} {e : Env} {R : Room} {s : State} {m : MethodId} {args : Array Value} {below : List Frame} {meth : Method} {c : Code} {H : Heap} {locs : List Loc} {cells slots : Nat} {Q : State → Prop}
variable {mc ms : Nat} {free : Addr → Prop} {A0 A1 : Nat → Prop} {H0 : Heap} {a : Array Value} {ls : Array Slot} {st0 rest : List Value}
variable {Qc : Array Value → State → Outcome → State → Prop} {XC : String → State → State → Prop}
/-- what a body that may throw owes at its end -/
def vx_MQ (below : List Frame) (Qc : Array Value → State → Outcome → State → Prop) (XC : String → State → State → Prop) (a : Array Value) (s : State) (mc ms : Nat) (free : Addr → Prop) : State → Prop := fun t =>
  ∃ o, t.status = .running ∧ Ended t below o ∧ vx_Q Qc XC mc ms free a s o t
theorem vx_ret {g : JFrame} {mc ms : Nat} (k : W p l e R s m args below meth c H locs cells slots (MQ below Qc args s mc ms free) g) : W p l e R s m args below meth c H locs cells slots (vx_MQ below Qc XC args s mc ms free) g := by
  intro T hT X
  obtain ⟨t, a1, o, b1, b2, b3, b4⟩ := k T hT X
  exact ⟨t, a1, o, b1, b2, Or.inl ⟨b3, b4⟩⟩
/-- not caught here: it goes on to the caller -/
theorem vx_widen {g : JFrame} {q : Addr} {k n : Nat} (h1 : cells ≤ k) (h2 : slots ≤ n) (kk : vx_W p l e R s m args below meth c H locs k n Q g q) : vx_W p l e R s m args below meth c H locs cells slots Q g q := fun T hT X => kk T hT (stand_widen X h1 h2)
theorem vx_out {pc : Nat} {E : String} {ce : Cell} {q : Addr} {mc ms : Nat} (hout : ∀ x ∈ c.exceptionTable.toList, covers x pc = false) (hlocks : meth.locks = false) (hcell : H[q]? = some ce) (hv : ce.vm = .none) (hcl : s.vm.findClass E = some ce.cls)
    (hx : ∀ t : State, t.heap = H → s.vm.Alike t.vm → XC E s t) (hf : ∀ z ∈ locs, free z.base) (hc : cells ≤ mc) (hs : slots ≤ ms) :
    vx_W p l e R s m args below meth c H locs cells slots (vx_MQ below Qc XC args s mc ms free) (F0 m pc ls rest) q := by
  intro T hT X
  obtain ⟨st1, hrun, hend, hW, hsm⟩ := X.leaveThrown q (g := F0 m pc ls rest) rfl rfl rfl hout hlocks
  have hcell9 : (T.setFrames (.throwing q :: below)).heap[q]? = some ce := by
    show T.heap[q]? = some ce
    rw [hT]; exact hcell
  exact ⟨_, st1, .threw q, hrun, hend, Or.inr ⟨q, rfl, E, ce, locs, hx _ hT hW.alike, hcell9, hv, hcl, hW, hsm.mono hc hs, hf⟩⟩
theorem vx_frame {U : State} {k n : Nat} (h : s.sameButNew ({ U with vm := s.vm } : State) locs k n) : s.heap.size ≤ U.heap.size ∧ ∀ q : Nat, q < s.heap.size → (∀ z ∈ locs, z.base ≠ q) → U.heap[q]? = s.heap[q]? := by
  obtain ⟨-, h2, -, -, -, h6⟩ := h
  refine ⟨h2, fun q hq hz => ?_⟩
  obtain ⟨c9, e1, e2, e3, e4⟩ := h6 q _ (Array.getElem?_eq_getElem hq)
  have hs : c9.slots = (s.heap[q]).slots := Array.ext_getElem? fun i => e4 i fun hm => hz _ hm rfl
  have h9 : c9 = s.heap[q] := by
    rw [hs] at e2
    exact e2
  have e5 : U.heap[q]? = some c9 := e1
  rw [e5, h9, Array.getElem?_eq_getElem hq]
/-- the words of a throw but the four that speak of the heap -/
def vx_no (w : Cond) : Bool := decide (w ≠ .isRef (.static Bundle.tN "UNASSIGNED_STACK" Bundle.steD)) && decide (w ≠ .isRef (.static Bundle.tN "SUPPRESSED_SENTINEL" Bundle.listD)) && decide (w ≠ .laysStatic Bundle.tN "UNASSIGNED_STACK" Bundle.steD) && decide (w ≠ .laysStatic Bundle.tN "SUPPRESSED_SENTINEL" Bundle.listD)
def vx_at0 (own : String) (ic : Nat) (X : String) (names : List String) : List Cond := (Bundle.ownAtoms0 own ic X names).filter vx_no
def vx_atS (own : String) (ic : Nat) (X : String) (names : List String) : List Cond := (Bundle.ownAtoms own ic X names).filter vx_no
/-- a word that the tables alone decide, or a good one -/
def vx_ot (w : Cond) : Bool := w.onTables || goodWord w
theorem vx_ot_at {args a' : Array Value} {s U : State} {w : Cond} (hW : s.WarmedH U.vm) (hvm : s.vm = U.vm) (hg : vx_ot w = true) (h : w.before args s = true) : w.before a' U = true := by
  simp only [vx_ot, Bool.or_eq_true] at hg
  rcases hg with hg | hg
  · exact va_tabs hg hvm h
  · exact word_at hW (good_of_word hg) h
/-- a list's words: the good ones out of the method's own list, the others by premises of their own -/
theorem vx_hat {args : Array Value} {s : State} {L B : List Cond} (h1 : ∀ w ∈ L.filter goodWord, w.before args s = true) (h2 : ∀ w ∈ L.filter (fun w => !goodWord w), w ∈ B) (h3 : ∀ w ∈ B, w.before args s = true) : ∀ w ∈ L, w.before args s = true := by
  intro w hw
  by_cases g : goodWord w = true
  · exact h1 w (List.mem_filter.mpr ⟨hw, g⟩)
  · refine h3 w (h2 w (List.mem_filter.mpr ⟨hw, ?_⟩))
    show (!goodWord w) = true
    cases hgw : goodWord w
    · rfl
    · exact absurd hgw g
theorem vx_c {args : Array Value} {s : State} {w : Cond} {B : List Cond} (h : w.before args s = true) (t : ∀ w ∈ B, w.before args s = true) : ∀ w' ∈ w :: B, w'.before args s = true := fun w' h' => (List.mem_cons.mp h').elim (fun e => by rw [e]; exact h) (t w')
theorem vx_n {args : Array Value} {s : State} : ∀ w ∈ ([] : List Cond), w.before args s = true := fun _ h => nomatch h
theorem vx_own {args : Array Value} {s : State} {L : List Cond} (h1 : ∀ w ∈ L.filter vx_no, w.before args s = true)
    (hU : (Cond.isRef (.static Bundle.tN "UNASSIGNED_STACK" Bundle.steD)).before args s = true) (hN : (Cond.isRef (.static Bundle.tN "SUPPRESSED_SENTINEL" Bundle.listD)).before args s = true)
    (lU : (Cond.laysStatic Bundle.tN "UNASSIGNED_STACK" Bundle.steD).before args s = true) (lN : (Cond.laysStatic Bundle.tN "SUPPRESSED_SENTINEL" Bundle.listD).before args s = true) : ∀ w ∈ L, w.before args s = true := by
  intro w hw
  by_cases e1 : w = .isRef (.static Bundle.tN "UNASSIGNED_STACK" Bundle.steD)
  · rw [e1]; exact hU
  · by_cases e2 : w = .isRef (.static Bundle.tN "SUPPRESSED_SENTINEL" Bundle.listD)
    · rw [e2]; exact hN
    · by_cases e3 : w = .laysStatic Bundle.tN "UNASSIGNED_STACK" Bundle.steD
      · rw [e3]; exact lU
      · by_cases e4 : w = .laysStatic Bundle.tN "SUPPRESSED_SENTINEL" Bundle.listD
        · rw [e4]; exact lN
        · exact h1 w (List.mem_filter.mpr ⟨hw, by unfold vx_no; rw [decide_eq_true e1, decide_eq_true e2, decide_eq_true e3, decide_eq_true e4]; rfl⟩)
/-- where a static field lies, its class's statics cell in H -/
def vx_L (C n d : String) (A : Nat → Prop) (U : State) (H : Heap) : Prop := ∃ (c : ClassId) (k : Class) (i : Nat) (f : Field) (a : Nat) (cell : Cell), U.vm.findClass C = some c ∧ U.fieldFound? C n d = some (c, k, i, f) ∧ f.isStatic = true ∧ k.statics = some a ∧ H[a]? = some cell ∧ cell.vm.isStatics = true ∧ cell.cls = c ∧ f.slot < cell.slots.size ∧ k.staticTypes[f.slot]? = some f.type ∧ ¬ A a
theorem vx_L.moved {C n d : String} {A : Nat → Prop} {u U : State} {H : Heap} (hvm : u.vm.Alike U.vm) (h : vx_L C n d A u H) : vx_L C n d A U H := by
  obtain ⟨c, k, i, f, a, cell, h1, h2, h3, h4, h5, h6, h7, h8, h9, h10⟩ := h
  obtain ⟨k', hi', he⟩ := State.fieldFound?_setVm hvm h2
  exact ⟨c, k', i, f, a, cell, by rw [hvm.findClass]; exact h1, hi', h3, by rw [he]; exact h4, h5, h6, h7, h8, by rw [he]; exact h9, h10⟩
theorem vx_L.kept {C n d : String} {A : Nat → Prop} {U : State} {H H1 : Heap} (h : vx_L C n d A U H) (hq : ∀ a : Nat, a < H.size → ¬ A a → H1[a]? = H[a]?) : vx_L C n d A U H1 := by
  obtain ⟨c, k, i, f, a, cell, h1, h2, h3, h4, h5, h6, h7, h8, h9, h10⟩ := h
  exact ⟨c, k, i, f, a, cell, h1, h2, h3, h4, by rw [hq a (Array.getElem?_eq_some_iff.mp h5).1 h10]; exact h5, h6, h7, h8, h9, h10⟩
theorem vx_L.narrow {C n d : String} {A B : Nat → Prop} {U : State} {H : Heap} (h : vx_L C n d A U H) (hAB : ∀ q, B q → A q) : vx_L C n d B U H := by
  obtain ⟨c, k, i, f, a, cell, h1, h2, h3, h4, h5, h6, h7, h8, h9, h10⟩ := h
  exact ⟨c, k, i, f, a, cell, h1, h2, h3, h4, h5, h6, h7, h8, h9, fun z => h10 (hAB _ z)⟩
theorem vx_L.word {C n d : String} {A : Nat → Prop} {s : State} {args : Array Value} (h : vx_L C n d A s s.heap) : (Cond.laysStatic C n d).before args s = true := by
  obtain ⟨c, k, i, f, a, cell, h1, h2, h3, h4, h5, h6, h7, h8, h9, -⟩ := h
  show (Cond.laysStatic C n d).holds args s none s [] = true
  exact Cond.laysStatic_of h1 h2 h3 h4 h5 h6 h7 h8 h9
/-- .. and what it holds: null or some reference -/
def vx_Zq (C n d : String) (A : Nat → Prop) (U : State) (H : Heap) : Prop := va_Zq C n d A U H ∧ vx_L C n d A U H
theorem vx_Zq.moved {C n d : String} {A : Nat → Prop} {u U : State} {H : Heap} (hvm : u.vm.Alike U.vm) (h : vx_Zq C n d A u H) : vx_Zq C n d A U H := ⟨va_Zq.moved hvm h.1, vx_L.moved hvm h.2⟩
theorem vx_Zq.kept {C n d : String} {A : Nat → Prop} {U : State} {H H1 : Heap} (h : vx_Zq C n d A U H) (hq : ∀ a : Nat, a < H.size → ¬ A a → H1[a]? = H[a]?) : vx_Zq C n d A U H1 := ⟨va_Zq.kept h.1 hq, vx_L.kept h.2 hq⟩
theorem vx_Zq.narrow {C n d : String} {A B : Nat → Prop} {U : State} {H : Heap} (h : vx_Zq C n d A U H) (hAB : ∀ q, B q → A q) : vx_Zq C n d B U H := ⟨va_Zq.narrow h.1 hAB, vx_L.narrow h.2 hAB⟩
theorem vx_Zqof {args : Array Value} {s : State} {C n d : String} {A : Nat → Prop} (hl : (Cond.laysStatic C n d).before args s = true) (hini : (Cond.initialized C).before args s = true) (h : (Cond.isRef (.static C n d)).before args s = true) (hA : ∀ a : Nat, a < s.heap.size → ¬ A a) : vx_Zq C n d A s s.heap := by
  refine ⟨va_Zqof hl hini h hA, ?_⟩
  obtain ⟨c, k, i, f, a, cell, h1, h2, h3, h4, h5, h6, h7, h8, h9⟩ := Cond.laysStatic_spec hl
  exact ⟨c, k, i, f, a, cell, h1, h2, h3, h4, h5, h6, h7, h8, h9, hA a (Array.getElem?_eq_some_iff.mp h5).1⟩
theorem vx_isRef {C n d : String} {v : Value} {A : Nat → Prop} {s : State} {args : Array Value} (h : va_Z C n d v A s s.heap) (hv : v.isRef = true) : (Cond.isRef (.static C n d)).before args s = true := by
  obtain ⟨cf, kf, fi, f, a, cell, h1, h2, h3, h4, h5, h6, h7, -⟩ := h
  have he : (Term.static C n d).eval args s none [] s = some v := by
    simp [Term.eval, State.fieldNamed?, h1, h2, h4, h5, h6, h7]
  simp only [Cond.before, Cond.holds, Cond.value, he]
  cases v <;> simp_all [Value.isRef]
theorem vx_isRefq {C n d : String} {A : Nat → Prop} {s : State} {args : Array Value} (h : va_Zq C n d A s s.heap) : (Cond.isRef (.static C n d)).before args s = true := by
  rcases h with h | ⟨t, h⟩
  · exact vx_isRef h rfl
  · exact vx_isRef h rfl
/-- the same frame, seen from here: as if the method were called anew in this heap -/
theorem vx_rebase {T : State} (X : Stand p l e R s m args below meth c T locs cells slots) {R' : Room} (hf : R'.frames ≤ R.frames) (hl : R'.locals ≤ R.locals) (hc : cells + R'.cells ≤ R.cells) (hs : slots + R'.slots ≤ R.slots) :
    Stand p l e R' ((T.setVm s.vm).setFrames (.invoking m args :: below)) m args below meth c T [] 0 0 := by
  have htop : (T.setVm s.vm).topJava?.isSome := X.here.top
  have hF : ((T.setVm s.vm).setFrames (.invoking m args :: below)).frames = .invoking m args :: below := State.frames_setFrames _ (State.cur_lt_of_top htop)
  obtain ⟨g₀, hg0⟩ := Option.isSome_iff_exists.mp htop
  obtain ⟨r, hr⟩ := State.topJava?_eq_some.mp hg0
  have hl9 : e.platform.stackLimits (T.setVm s.vm).me = e.platform.stackLimits s.me := X.limits
  have hb9 : (T.setVm s.vm).me.stackBytes = s.me.stackBytes := X.bytes
  refine ⟨X.admits, X.cas, X.clock, hF, ?_, X.hears, X.method, X.code, X.here, X.tail, X.warmed, ?_, ?_, ?_⟩
  · have h := X.room
    have hU : ((T.setVm s.vm).setFrames (.invoking m args :: below)).localsInUse = s.localsInUse := by
      rw [State.localsInUse_invoking hF (meth := meth) (c := c) X.method X.code, State.localsInUse_invoking X.frames X.method X.code]
    simp only [State.hasRoom, Bool.and_eq_true, decide_eq_true_eq] at h ⊢
    obtain ⟨⟨⟨⟨h1, h2, h3, h4, h5, h6⟩, h7⟩, h8⟩, h9⟩ := h
    rw [X.frames, List.length_cons] at h2 h3
    have q1 := X.heapSize
    have q2 := X.used
    simp only [hF, hU, List.length_cons, State.stackLimits_setFrames, State.stackBytes_setFrames, hl9, hb9]
    refine ⟨⟨⟨⟨by omega, by omega, by omega, by omega, by omega, h6⟩, ?_⟩, ?_⟩, X.book⟩
    · show T.heap.size + R'.cells ≤ e.platform.maxCells
      omega
    · show T.slotsUsed + R'.slots ≤ e.platform.maxSlots
      omega
  · rw [State.stackLimits_setFrames]; rfl
  · rw [State.stackBytes_setFrames]; rfl
  · refine ⟨?_, Nat.le_refl _, Nat.le_refl _, ?_, ?_, fun a c9 h9 => ⟨c9, h9, rfl, rfl, fun _ _ => rfl⟩⟩
    · obtain ⟨t, ht, -⟩ := State.frames_cons hr
      show T.setVm s.vm = { ((T.setVm s.vm).setFrames (.invoking m args :: below)).setFrames (T.setVm s.vm).frames with heap := T.heap, slotsUsed := T.slotsUsed }
      rw [State.setFrames_setFrames, State.setFrames_self ht]
      rfl
    · show T.slotsUsed = T.slotsUsed + ((T.heap.toList.drop T.heap.size).map (·.slots.size)).sum
      rw [List.drop_eq_nil_of_le (Nat.le_of_eq Array.length_toList)]
      rfl
    · show ((T.heap.toList.drop T.heap.size).map (·.slots.size)).sum ≤ 0
      rw [List.drop_eq_nil_of_le (Nat.le_of_eq Array.length_toList)]
      exact Nat.le_refl _
/-- 'throw new E()': new; dup; invokespecial; athrow -/
theorem vx_throw0 {cc : ByteArray} {pc : Nat} (hexec : p.tables.exec = Jvm.exec) (hb : c.code = cc) (hl : l.stackTraces = false) {own cls : String} {names : List String} {ik ic mc ms : Nat} {A : Nat → Prop}
    (hown : s.vm.findClass own = some m.cls) (hcls : Bundle.fit cls = true) (hnames : ∀ n ∈ names, Bundle.fit n = true)
    (hk : (Cond.classLink own ik cls).before args s = true) (hini : (Cond.initialized cls).before args s = true) (hat : ∀ w ∈ vx_at0 own ic cls names, w.before args s = true)
    (hgood : ∀ w ∈ Cond.classLink own ik cls :: Cond.initialized cls :: vx_at0 own ic cls names, vx_ot w = true)
    (hU : vx_Zq Bundle.tN "UNASSIGNED_STACK" Bundle.steD A s s.heap) (hN : vx_Zq Bundle.tN "SUPPRESSED_SENTINEL" Bundle.listD A s s.heap) (hS : va_S A s.heap H locs) (hsize : ls.size = c.maxLocals)
    (d0 : decode cc pc = .ok (.new ik, 3)) (d3 : decode cc (pc + 3) = .ok (.dup, 1)) (d4 : decode cc (pc + 4) = .ok (.invokespecial ic, 3)) (d7 : decode cc (pc + 7) = .ok (.athrow, 1))
    (hout : ∀ x ∈ c.exceptionTable.toList, covers x (pc + 7) = false)
    (hRframes : names.length + 3 < R.frames) (hRlocals : (rest.map fun v => v.category).sum + (13 * (names.length + 1) + 42) ≤ R.locals) (hRcells : cells + 1 ≤ R.cells) (hRslots : slots + 6 ≤ R.slots) (hlocks : meth.locks = false)
    (hx : ∀ t : State, s.vm.Alike t.vm → H.size ≤ t.heap.size → (∀ q : Nat, q < H.size → t.heap[q]? = H[q]?) → XC cls s t)
    (hf : ∀ z ∈ locs, free z.base) (hc : cells + 1 ≤ mc) (hs : slots + 6 ≤ ms) :
    W p l e R s m args below meth c H locs cells slots (vx_MQ below Qc XC args s mc ms free) (F0 m pc ls rest) := by
  intro T hT X
  have htr : e.platform.stackTraces = false := (show e.platform.stackTraces = l.stackTraces by rw [X.admits.platform]).trans hl
  have Y := vx_rebase X (R' := { frames := R.frames, locals := R.locals, cells := 1, slots := 6 }) (Nat.le_refl _) (Nat.le_refl _) hRcells hRslots
  obtain ⟨s', hA⟩ : ∃ z, z = (T.setVm s.vm).setFrames (.invoking m args :: below) := ⟨_, rfl⟩
  rw [← hA] at Y
  have hvm : s'.vm = s.vm := by rw [hA]; rfl
  have hhp : s'.heap = H := by rw [hA]; exact hT
  have hW0 : s.WarmedH s'.vm := by rw [hvm]; exact State.WarmedH.refl s
  have hat' : ∀ w ∈ vx_at0 own ic cls names, w.before args s' = true := fun w hw => vx_ot_at hW0 hvm.symm (hgood w (List.mem_cons_of_mem _ (List.mem_cons_of_mem _ hw))) (hat w hw)
  have hk' : (Cond.classLink own ik cls).before args s' = true := vx_ot_at hW0 hvm.symm (hgood _ List.mem_cons_self) hk
  have hini' : (Cond.initialized cls).before args s' = true := vx_ot_at hW0 hvm.symm (hgood _ (List.mem_cons_of_mem _ List.mem_cons_self)) hini
  have hU' : vx_Zq Bundle.tN "UNASSIGNED_STACK" Bundle.steD A s' s'.heap := by rw [hhp]; exact vx_Zq.moved hW0.alike (hU.kept hS.2.1)
  have hN' : vx_Zq Bundle.tN "SUPPRESSED_SENTINEL" Bundle.listD A s' s'.heap := by rw [hhp]; exact vx_Zq.moved hW0.alike (hN.kept hS.2.1)
  have h : ∀ w ∈ Bundle.ownAtoms0 own ic cls names, w.before args s' = true := vx_own hat' (vx_isRefq hU'.1) (vx_isRefq hN'.1) hU'.2.word hN'.2.word
  have hown' : s'.vm.findClass own = some m.cls := by rw [hvm]; exact hown
  have hins : (Cond.instantiable cls 6).before args s' = true := h _ (by simp [Bundle.ownAtoms0])
  obtain ⟨vm₁, cX, kX, hfX, hkX, -, -, X₁, st1⟩ := Y.newCold hexec (own := own) (C := cls) (index := ik) (n := 6) hown' hk' hins hini'
    (g := F0 m pc ls rest) rfl (by rw [hb]; exact d0) (Nat.le_refl _) (Nat.le_refl _)
  generalize hT1 : (T.setVm vm₁).pushCell { cls := cX, slots := kX.instanceTypes.map defaultValue, vm := .none } = T1 at X₁ st1
  have hcat : (Value.ref T.heap.size).category = 1 := rfl
  have hcellA : T1.heap[T.heap.size]? = some (freshCell cX kX) := by rw [← hT1]; exact State.heap_pushCell_size _ _
  have d3' : decode c.code (pc + 3) = .ok (.dup, 1) := by rw [hb]; exact d3
  obtain ⟨U, hsteps, hrun, hend, hW, hsame, ce, hce, hO⟩ := X₁.ctorThrow0 hexec htr (own := own) (cls := cls) (names := names) (ic := ic) hown' hcls hnames h (fun x hx => nomatch hx) hfX hkX hcellA (by rw [hhp, hT]; exact Nat.le_refl _)
    (g := { method := m, pc := pc + 4, locals := ls, stack := .ref T.heap.size :: .ref T.heap.size :: rest, locked := none }) rfl hsize rfl rfl (rest := rest) rfl
    (by rw [hb]; exact d4) (by rw [hb]; exact d7) hout hRframes (by simp only [List.map_cons, List.sum_cons, hcat]; omega) hlocks
  obtain ⟨f1, f2⟩ := vx_frame hsame
  rw [hhp] at f1 f2
  have hWs : s.WarmedH U.vm := State.WarmedH.trans hW0 hW
  have hcl : s.vm.findClass cls = some ce.cls := by
    have h9 := hO.cls
    rw [hvm] at h9
    exact h9
  have hall : s.sameButNew ({ U with vm := s.vm } : State) locs mc ms := by
    subst hA
    obtain ⟨e1, e2⟩ := hsame
    rw [State.setFrames_setFrames] at e1
    have h2 : (T.setVm s.vm).sameButNew ({ U with vm := s.vm } : State) [] (0 + 1) (0 + 6) := ⟨e1, e2⟩
    have h3 := X.same.trans h2
    rw [List.append_nil] at h3
    exact h3.mono hc hs
  refine ⟨U, ?_, .threw T.heap.size, hrun, hend, Or.inr ⟨T.heap.size, rfl, cls, ce, locs, hx U hWs.alike f1 (fun q hq => f2 q hq (fun z hz => nomatch hz)), hce, hO.vm, hcl, hWs, hall, hf⟩⟩
  refine st1 _ ?_
  show Steps p.tables e below (T1.setTop { method := m, pc := pc + 3, locals := ls, stack := .ref T.heap.size :: rest, locked := none }) _
  jvm_step X₁.here [X₁.here.top, hexec, d3', Value.category]
  exact hsteps
/-- 'throw new E("text")': new; dup; ldc; invokespecial; athrow -/
theorem vx_throwS {cc : ByteArray} {pc : Nat} (hexec : p.tables.exec = Jvm.exec) (hb : c.code = cc) (hl : l.stackTraces = false) {own cls text : String} {names : List String} {ik is ic mc ms sa : Nat} {A : Nat → Prop}
    (hown : s.vm.findClass own = some m.cls) (hcls : Bundle.fit cls = true) (hnames : ∀ n ∈ names, Bundle.fit n = true)
    (hk : (Cond.classLink own ik cls).before args s = true) (hini : (Cond.initialized cls).before args s = true) (hstr : vk_R own is text sa s) (hat : ∀ w ∈ vx_atS own ic cls names, w.before args s = true)
    (hgood : ∀ w ∈ Cond.classLink own ik cls :: Cond.initialized cls :: vx_atS own ic cls names, vx_ot w = true)
    (hU : vx_Zq Bundle.tN "UNASSIGNED_STACK" Bundle.steD A s s.heap) (hN : vx_Zq Bundle.tN "SUPPRESSED_SENTINEL" Bundle.listD A s s.heap) (hS : va_S A s.heap H locs) (hsize : ls.size = c.maxLocals)
    (d0 : decode cc pc = .ok (.new ik, 3)) (d3 : decode cc (pc + 3) = .ok (.dup, 1)) (d4 : decode cc (pc + 4) = .ok (.ldc is, 2)) (d6 : decode cc (pc + 6) = .ok (.invokespecial ic, 3)) (d9 : decode cc (pc + 9) = .ok (.athrow, 1))
    (hout : ∀ x ∈ c.exceptionTable.toList, covers x (pc + 9) = false)
    (hRframes : names.length + 3 < R.frames) (hRlocals : (rest.map fun v => v.category).sum + (13 * (names.length + 1) + 43) ≤ R.locals) (hRcells : cells + 1 ≤ R.cells) (hRslots : slots + 6 ≤ R.slots) (hlocks : meth.locks = false)
    (hx : ∀ t : State, s.vm.Alike t.vm → H.size ≤ t.heap.size → (∀ q : Nat, q < H.size → t.heap[q]? = H[q]?) → XC cls s t)
    (hf : ∀ z ∈ locs, free z.base) (hc : cells + 1 ≤ mc) (hs : slots + 6 ≤ ms) :
    W p l e R s m args below meth c H locs cells slots (vx_MQ below Qc XC args s mc ms free) (F0 m pc ls rest) := by
  intro T hT X
  have htr : e.platform.stackTraces = false := (show e.platform.stackTraces = l.stackTraces by rw [X.admits.platform]).trans hl
  have Y := vx_rebase X (R' := { frames := R.frames, locals := R.locals, cells := 1, slots := 6 }) (Nat.le_refl _) (Nat.le_refl _) hRcells hRslots
  obtain ⟨s', hA⟩ : ∃ z, z = (T.setVm s.vm).setFrames (.invoking m args :: below) := ⟨_, rfl⟩
  rw [← hA] at Y
  have hvm : s'.vm = s.vm := by rw [hA]; rfl
  have hhp : s'.heap = H := by rw [hA]; exact hT
  have hW0 : s.WarmedH s'.vm := by rw [hvm]; exact State.WarmedH.refl s
  have hat' : ∀ w ∈ vx_atS own ic cls names, w.before args s' = true := fun w hw => vx_ot_at hW0 hvm.symm (hgood w (List.mem_cons_of_mem _ (List.mem_cons_of_mem _ hw))) (hat w hw)
  have hk' : (Cond.classLink own ik cls).before args s' = true := vx_ot_at hW0 hvm.symm (hgood _ List.mem_cons_self) hk
  have hini' : (Cond.initialized cls).before args s' = true := vx_ot_at hW0 hvm.symm (hgood _ (List.mem_cons_of_mem _ List.mem_cons_self)) hini
  have hU' : vx_Zq Bundle.tN "UNASSIGNED_STACK" Bundle.steD A s' s'.heap := by rw [hhp]; exact vx_Zq.moved hW0.alike (hU.kept hS.2.1)
  have hN' : vx_Zq Bundle.tN "SUPPRESSED_SENTINEL" Bundle.listD A s' s'.heap := by rw [hhp]; exact vx_Zq.moved hW0.alike (hN.kept hS.2.1)
  have h : ∀ w ∈ Bundle.ownAtoms own ic cls names, w.before args s' = true := vx_own hat' (vx_isRefq hU'.1) (vx_isRefq hN'.1) hU'.2.word hN'.2.word
  have hown' : s'.vm.findClass own = some m.cls := by rw [hvm]; exact hown
  have hins : (Cond.instantiable cls 6).before args s' = true := h _ (by simp [Bundle.ownAtoms])
  obtain ⟨vm₁, cX, kX, hfX, hkX, -, -, X₁, st1⟩ := Y.newCold hexec (own := own) (C := cls) (index := ik) (n := 6) hown' hk' hins hini'
    (g := F0 m pc ls rest) rfl (by rw [hb]; exact d0) (Nat.le_refl _) (Nat.le_refl _)
  generalize hT1 : (T.setVm vm₁).pushCell { cls := cX, slots := kX.instanceTypes.map defaultValue, vm := .none } = T1 at X₁ st1
  have hcat : (Value.ref T.heap.size).category = 1 := rfl
  have hcellA : T1.heap[T.heap.size]? = some (freshCell cX kX) := by rw [← hT1]; exact State.heap_pushCell_size _ _
  have d3' : decode c.code (pc + 3) = .ok (.dup, 1) := by rw [hb]; exact d3
  have d4' : decode c.code (pc + 4) = .ok (.ldc is, 2) := by rw [hb]; exact d4
  have hstr' : vk_R own is text sa s' := vk_R.warm hW0 hstr
  obtain ⟨U, hsteps, hrun, hend, hW, hsame, ce, hce, hO⟩ := X₁.ctorThrowS hexec htr (own := own) (cls := cls) (names := names) (ic := ic) hown' hcls hnames h (fun x hx => nomatch hx) hfX hkX hcellA (by rw [hhp, hT]; exact Nat.le_refl _) (msg := .ref sa) rfl
    (g := { method := m, pc := pc + 6, locals := ls, stack := .ref sa :: .ref T.heap.size :: .ref T.heap.size :: rest, locked := none }) rfl hsize rfl rfl (rest := rest) rfl
    (by rw [hb]; exact d6) (by rw [hb]; exact d9) hout hRframes (by simp only [List.map_cons, List.sum_cons, hcat]; omega) hlocks
  obtain ⟨f1, f2⟩ := vx_frame hsame
  rw [hhp] at f1 f2
  have hWs : s.WarmedH U.vm := State.WarmedH.trans hW0 hW
  have hcl : s.vm.findClass cls = some ce.cls := by
    have h9 := hO.cls
    rw [hvm] at h9
    exact h9
  have hall : s.sameButNew ({ U with vm := s.vm } : State) locs mc ms := by
    subst hA
    obtain ⟨e1, e2⟩ := hsame
    rw [State.setFrames_setFrames] at e1
    have h2 : (T.setVm s.vm).sameButNew ({ U with vm := s.vm } : State) [] (0 + 1) (0 + 6) := ⟨e1, e2⟩
    have h3 := X.same.trans h2
    rw [List.append_nil] at h3
    exact h3.mono hc hs
  refine ⟨U, ?_, .threw T.heap.size, hrun, hend, Or.inr ⟨T.heap.size, rfl, cls, ce, locs, hx U hWs.alike f1 (fun q hq => f2 q hq (fun z hz => nomatch hz)), hce, hO.vm, hcl, hWs, hall, hf⟩⟩
  refine st1 _ ?_
  show Steps p.tables e below (T1.setTop { method := m, pc := pc + 3, locals := ls, stack := .ref T.heap.size :: rest, locked := none }) _
  jvm_step X₁.here [X₁.here.top, hexec, d3', Value.category]
  exact X₁.ldcString hexec (own := own) (text := text) (index := is) (a := sa) hown' hstr'.1 hstr'.2
    (g := { method := m, pc := pc + 4, locals := ls, stack := .ref T.heap.size :: .ref T.heap.size :: rest, locked := none }) rfl d4' _ hsteps
/-- 'throw new E("text")', the text by a wide index -/
theorem vx_throwSW {cc : ByteArray} {pc : Nat} (hexec : p.tables.exec = Jvm.exec) (hb : c.code = cc) (hl : l.stackTraces = false) {own cls text : String} {names : List String} {ik is ic mc ms sa : Nat} {A : Nat → Prop}
    (hown : s.vm.findClass own = some m.cls) (hcls : Bundle.fit cls = true) (hnames : ∀ n ∈ names, Bundle.fit n = true)
    (hk : (Cond.classLink own ik cls).before args s = true) (hini : (Cond.initialized cls).before args s = true) (hstr : vk_R own is text sa s) (hat : ∀ w ∈ vx_atS own ic cls names, w.before args s = true)
    (hgood : ∀ w ∈ Cond.classLink own ik cls :: Cond.initialized cls :: vx_atS own ic cls names, vx_ot w = true)
    (hU : vx_Zq Bundle.tN "UNASSIGNED_STACK" Bundle.steD A s s.heap) (hN : vx_Zq Bundle.tN "SUPPRESSED_SENTINEL" Bundle.listD A s s.heap) (hS : va_S A s.heap H locs) (hsize : ls.size = c.maxLocals)
    (d0 : decode cc pc = .ok (.new ik, 3)) (d3 : decode cc (pc + 3) = .ok (.dup, 1)) (d4 : decode cc (pc + 4) = .ok (.ldc_w is, 3)) (d7 : decode cc (pc + 7) = .ok (.invokespecial ic, 3)) (d10 : decode cc (pc + 10) = .ok (.athrow, 1))
    (hout : ∀ x ∈ c.exceptionTable.toList, covers x (pc + 10) = false)
    (hRframes : names.length + 3 < R.frames) (hRlocals : (rest.map fun v => v.category).sum + (13 * (names.length + 1) + 43) ≤ R.locals) (hRcells : cells + 1 ≤ R.cells) (hRslots : slots + 6 ≤ R.slots) (hlocks : meth.locks = false)
    (hx : ∀ t : State, s.vm.Alike t.vm → H.size ≤ t.heap.size → (∀ q : Nat, q < H.size → t.heap[q]? = H[q]?) → XC cls s t)
    (hf : ∀ z ∈ locs, free z.base) (hc : cells + 1 ≤ mc) (hs : slots + 6 ≤ ms) :
    W p l e R s m args below meth c H locs cells slots (vx_MQ below Qc XC args s mc ms free) (F0 m pc ls rest) := by
  intro T hT X
  have htr : e.platform.stackTraces = false := (show e.platform.stackTraces = l.stackTraces by rw [X.admits.platform]).trans hl
  have Y := vx_rebase X (R' := { frames := R.frames, locals := R.locals, cells := 1, slots := 6 }) (Nat.le_refl _) (Nat.le_refl _) hRcells hRslots
  obtain ⟨s', hA⟩ : ∃ z, z = (T.setVm s.vm).setFrames (.invoking m args :: below) := ⟨_, rfl⟩
  rw [← hA] at Y
  have hvm : s'.vm = s.vm := by rw [hA]; rfl
  have hhp : s'.heap = H := by rw [hA]; exact hT
  have hW0 : s.WarmedH s'.vm := by rw [hvm]; exact State.WarmedH.refl s
  have hat' : ∀ w ∈ vx_atS own ic cls names, w.before args s' = true := fun w hw => vx_ot_at hW0 hvm.symm (hgood w (List.mem_cons_of_mem _ (List.mem_cons_of_mem _ hw))) (hat w hw)
  have hk' : (Cond.classLink own ik cls).before args s' = true := vx_ot_at hW0 hvm.symm (hgood _ List.mem_cons_self) hk
  have hini' : (Cond.initialized cls).before args s' = true := vx_ot_at hW0 hvm.symm (hgood _ (List.mem_cons_of_mem _ List.mem_cons_self)) hini
  have hU' : vx_Zq Bundle.tN "UNASSIGNED_STACK" Bundle.steD A s' s'.heap := by rw [hhp]; exact vx_Zq.moved hW0.alike (hU.kept hS.2.1)
  have hN' : vx_Zq Bundle.tN "SUPPRESSED_SENTINEL" Bundle.listD A s' s'.heap := by rw [hhp]; exact vx_Zq.moved hW0.alike (hN.kept hS.2.1)
  have h : ∀ w ∈ Bundle.ownAtoms own ic cls names, w.before args s' = true := vx_own hat' (vx_isRefq hU'.1) (vx_isRefq hN'.1) hU'.2.word hN'.2.word
  have hown' : s'.vm.findClass own = some m.cls := by rw [hvm]; exact hown
  have hins : (Cond.instantiable cls 6).before args s' = true := h _ (by simp [Bundle.ownAtoms])
  obtain ⟨vm₁, cX, kX, hfX, hkX, -, -, X₁, st1⟩ := Y.newCold hexec (own := own) (C := cls) (index := ik) (n := 6) hown' hk' hins hini'
    (g := F0 m pc ls rest) rfl (by rw [hb]; exact d0) (Nat.le_refl _) (Nat.le_refl _)
  generalize hT1 : (T.setVm vm₁).pushCell { cls := cX, slots := kX.instanceTypes.map defaultValue, vm := .none } = T1 at X₁ st1
  have hcat : (Value.ref T.heap.size).category = 1 := rfl
  have hcellA : T1.heap[T.heap.size]? = some (freshCell cX kX) := by rw [← hT1]; exact State.heap_pushCell_size _ _
  have d3' : decode c.code (pc + 3) = .ok (.dup, 1) := by rw [hb]; exact d3
  have d4' : decode c.code (pc + 4) = .ok (.ldc_w is, 3) := by rw [hb]; exact d4
  have hstr' : vk_R own is text sa s' := vk_R.warm hW0 hstr
  obtain ⟨U, hsteps, hrun, hend, hW, hsame, ce, hce, hO⟩ := X₁.ctorThrowS hexec htr (own := own) (cls := cls) (names := names) (ic := ic) hown' hcls hnames h (fun x hx => nomatch hx) hfX hkX hcellA (by rw [hhp, hT]; exact Nat.le_refl _) (msg := .ref sa) rfl
    (g := { method := m, pc := pc + 7, locals := ls, stack := .ref sa :: .ref T.heap.size :: .ref T.heap.size :: rest, locked := none }) rfl hsize rfl rfl (rest := rest) rfl
    (by rw [hb]; exact d7) (by rw [hb]; exact d10) hout hRframes (by simp only [List.map_cons, List.sum_cons, hcat]; omega) hlocks
  obtain ⟨f1, f2⟩ := vx_frame hsame
  rw [hhp] at f1 f2
  have hWs : s.WarmedH U.vm := State.WarmedH.trans hW0 hW
  have hcl : s.vm.findClass cls = some ce.cls := by
    have h9 := hO.cls
    rw [hvm] at h9
    exact h9
  have hall : s.sameButNew ({ U with vm := s.vm } : State) locs mc ms := by
    subst hA
    obtain ⟨e1, e2⟩ := hsame
    rw [State.setFrames_setFrames] at e1
    have h2 : (T.setVm s.vm).sameButNew ({ U with vm := s.vm } : State) [] (0 + 1) (0 + 6) := ⟨e1, e2⟩
    have h3 := X.same.trans h2
    rw [List.append_nil] at h3
    exact h3.mono hc hs
  refine ⟨U, ?_, .threw T.heap.size, hrun, hend, Or.inr ⟨T.heap.size, rfl, cls, ce, locs, hx U hWs.alike f1 (fun q hq => f2 q hq (fun z hz => nomatch hz)), hce, hO.vm, hcl, hWs, hall, hf⟩⟩
  refine st1 _ ?_
  show Steps p.tables e below (T1.setTop { method := m, pc := pc + 3, locals := ls, stack := .ref T.heap.size :: rest, locked := none }) _
  jvm_step X₁.here [X₁.here.top, hexec, d3', Value.category]
  exact X₁.ldcStringW hexec (own := own) (text := text) (index := is) (a := sa) hown' hstr'.1 hstr'.2
    (g := { method := m, pc := pc + 4, locals := ls, stack := .ref T.heap.size :: .ref T.heap.size :: rest, locked := none }) rfl d4' _ hsteps
end Ends
section Bodies
variable {l : Launch}
theorem vx_ofW {y : MethodName} {ws ws' : List Cond} {rm : Room} {Pc : Array Value → State → Prop} {Qc : Array Value → State → Outcome → State → Prop} {XC : String → State → State → Prop} {mc ms : Nat} {free : Addr → Prop} {cc : ByteArray} {maxL : Nat} {ret : Option FieldType}
    (hy : plainName y.cls = true) (hw : ws = Cond.code y cc maxL ret :: ws')
    (body : ∀ p e s m args below meth c s₁, BodyLoose p l y (headSpec ws rm) cc maxL ret e s m args below meth c s₁ → c.maxLocals = maxL → (∀ x ∈ c.exceptionTable.toList, False) → Pc args s →
      W p l e (headSpec ws rm).room s m args below meth c s.heap [] 0 0 (vx_MQ below Qc XC args s mc ms free) (entryFrame m args maxL)) : vx_Met l y ws rm Pc Qc XC mc ms free := by
  refine MetFree.of_bodyS (code := cc) (maxLocals := maxL) (ret := ret) hy ?_ ?_
  · intro args s m h hn
    obtain ⟨meth, c, h1, h2, h3, h4, h5, h6, -, -⟩ := Cond.code_spec hn (atoms_spec (ws := ws) h _ (by rw [hw]; exact List.mem_cons_self))
    exact ⟨meth, c, h1, h2, h3, h4, h5, h6⟩
  · intro p e s m args below meth c s₁ B hml hP _
    have hh0 : s₁.heap = s.heap := by rw [B.state]; rfl
    have ht : ∀ x ∈ c.exceptionTable.toList, False := by
      obtain ⟨meth9, c9, h1, h2, -, -, -, -, h7, -⟩ := Cond.code_spec B.named (atoms_spec (ws := ws) B.pre _ (by rw [hw]; exact List.mem_cons_self))
      cases Option.some.inj (h1.symm.trans B.method)
      cases Option.some.inj (h2.symm.trans (Stand.of_body B).code)
      intro x hx
      rw [Array.isEmpty_iff.mp h7] at hx
      cases hx
    obtain ⟨t, a1, o, b1, b2, b3⟩ := body p e s m args below meth c s₁ B hml ht hP s₁ hh0 (Stand.of_body B)
    exact ⟨t, o, a1, b1, b2, b3⟩
/-- the table of a body with handlers -/
theorem vx_table {p : Program} {x y : MethodName} {S : Spec} {cc bytes : ByteArray} {maxL maxL' : Nat} {ret ret' : Option FieldType} {e : Env} {s s₁ : State} {m : MethodId} {args : Array Value} {below : List Frame} {meth : Method} {c : Code} {hh : List (Nat × Nat × Nat × Nat)}
    (B : BodyLoose p l y S cc maxL ret e s m args below meth c s₁) (h : (Cond.codeWith y bytes maxL' ret' hh).before args s = true) : c.exceptionTable.toList = tableOf hh := by
  obtain ⟨m9, meth9, c9, hn9, h1, h2, -, -, h6, -⟩ := Cond.codeWith_spec h
  cases Option.some.inj (hn9.symm.trans B.named)
  cases Option.some.inj (h1.symm.trans B.method)
  cases Option.some.inj (h2.symm.trans (Stand.of_body B).code)
  rw [← h6, table_eq]
end Bodies
end VXA
/-! ===== END ===== -/
/-! ===== BEGIN a static call of a method with an exception table ===== -/
section VXS
variable {p : Program} {l : Launch} {e : Env} {R : Room} {s : State} {m : MethodId} {args : Array Value} {below : List Frame} {meth : Method} {c : Code} {T : State} {H : Heap} {locs : List Loc} {cells slots : Nat}
abbrev vx_CSW (R : Room) (s : State) (args : Array Value) (own : String) (index : Nat) (y : MethodName) (bytes : ByteArray) (maxL : Nat) (ret : Option FieldType) (hh : List (Nat × Nat × Nat × Nat)) (ws : List Cond) (rm : Room) (mc ms n : Nat) : Prop :=
  (rm.cells = mc ∧ rm.slots = ms ∧ rm.frames + 1 ≤ R.frames ∧ 8 + (maxL + 11) + rm.locals ≤ R.locals ∧ (∀ w ∈ ws, ∀ (a' : Array Value) (U : State), s.WarmedH U.vm → w.before a' U = true) ∧ Cond.codeWith y bytes maxL ret hh ∈ ws) ∧
  (Cond.codeWith y bytes maxL ret hh).before args s = true ∧ (Cond.initialized y.cls).before args s = true ∧ (y.cls ≠ "java/lang/invoke/MethodHandle" ∧ y.cls ≠ "java/lang/invoke/VarHandle") ∧
  (∀ sig, parseMethodDescriptor y.desc = some sig → n = sig.parameters.length) ∧ (Cond.methodLink own index y).before args s = true ∧ (Cond.static y).before args s = true
theorem vx_cwSW {own : String} {index maxL mc ms : Nat} {y : MethodName} {bytes : ByteArray} {ret : Option FieldType} {hh : List (Nat × Nat × Nat × Nat)} {Ts ws ws' : List Cond} {rm : Room} (n : Nat) (ht : ∀ w ∈ Ts, w.before args s = true) (hT : GoodIn Ts (va_wsS own index y ws)) (hw : ws = Cond.codeWith y bytes maxL ret hh :: ws') (hrc : rm.cells = mc) (hrs : rm.slots = ms)
    (hd : y.cls ≠ "java/lang/invoke/MethodHandle" ∧ y.cls ≠ "java/lang/invoke/VarHandle" ∧ (parseMethodDescriptor y.desc).map (fun d => d.parameters.length) = some n) (hR : rm.frames + 1 ≤ R.frames ∧ 8 + (maxL + 11) + rm.locals ≤ R.locals) :
    vx_CSW R s args own index y bytes maxL ret hh ws rm mc ms n := by
  have ok : ∀ w ∈ va_wsS own index y ws, w.before args s = true := fun w h => ht w (hT w h).1
  have hG : GoodIn Ts ws := fun w h => hT w (by unfold va_wsS; exact List.mem_append_right _ h)
  have hc : Cond.codeWith y bytes maxL ret hh ∈ ws := by rw [hw]; exact List.mem_cons_self
  refine ⟨⟨hrc, hrs, hR.1, hR.2, pay_in ht hG, hc⟩, ht _ (hG _ hc).1, ok _ (by simp [va_wsS]), ⟨hd.1, hd.2.1⟩, fun sig h => ?_, ok _ (by simp [va_wsS]), ok _ (by simp [va_wsS])⟩
  have h2 := hd.2.2
  rw [h] at h2
  exact (Option.some.inj h2).symm
theorem vx_callSW (X : Stand p l e R s m args below meth c T locs cells slots) (hexec : p.tables.exec = Jvm.exec) {own : String} {index : Nat} {y : MethodName} {bytes : ByteArray} {maxL : Nat} {ret : Option FieldType} {hh : List (Nat × Nat × Nat × Nat)}
    (hown : s.vm.findClass own = some m.cls) (hlink : (Cond.methodLink own index y).before args s = true) (hstat : (Cond.static y).before args s = true) (hinit : (Cond.initialized y.cls).before args s = true)
    (hcode : (Cond.codeWith y bytes maxL ret hh).before args s = true) (hy : y.cls ≠ "java/lang/invoke/MethodHandle" ∧ y.cls ≠ "java/lang/invoke/VarHandle")
    {W9 : Nat} {Pre : Pt → Array Value → Prop} {Post : Pt → Array Value → Option Value → Pt → Prop} (hK : Back l R p e below s args y 3 W9 Pre Post)
    {g : JFrame} (hg : g.method = m) (hsize : g.locals.size = c.maxLocals) {argsL rest : List Value} (hlen : ∀ sig, parseMethodDescriptor y.desc = some sig → argsL.length = sig.parameters.length)
    (hstack : g.stack = argsL.reverse ++ rest) (hW : 2 * g.monitorRoom + (rest.map fun v => v.category).sum ≤ W9) (hdg : decode c.code g.pc = .ok (.invokestatic index, 3))
    (hpre : ∀ vm₁, s.WarmedH vm₁ → Pre ⟨T.setVm vm₁, locs, cells, slots⟩ argsL.toArray) :
    ∃ (v : Option Value) (vm₁ : Vm) (B : Pt), s.WarmedH vm₁ ∧ Stand p l e R s m args below meth c B.U B.locs B.cells B.slots ∧ Post ⟨T.setVm vm₁, locs, cells, slots⟩ argsL.toArray v B ∧
      ∀ target, Steps p.tables e below (B.U.setTop { g with pc := g.pc + 3, stack := v.toList ++ rest }) target → Steps p.tables e below (T.setTop g) target := by
  obtain ⟨mk, methM, cM, hnamed, hmethM, -, -, -, -, -, -, hsigM⟩ := Cond.codeWith_spec hcode
  have hstatic : methM.isStatic = true := Cond.static_spec hnamed hmethM hstat
  obtain ⟨kP, hkP, -⟩ := className_of_methodNamed hnamed
  have hinitP : kP.init = .initialized := Cond.initialized_spec (findClass_of_methodNamed hnamed) hkP hinit
  obtain ⟨vm₁, X₁, hstep₁⟩ := X.invokestatic hexec hown hlink hnamed hmethM hstatic hkP hinitP hy (g := g) hg (argsL := argsL) (rest := rest) (hlen _ hsigM) hstack hdg
  obtain ⟨v, B, X', hpost, hsteps⟩ := hK m meth c ⟨T.setVm vm₁, locs, cells, slots⟩ { g with stack := rest } (.invokestatic index) mk argsL.toArray X₁ hg hsize hdg hW (X₁.named hnamed) (hpre vm₁ X₁.warmed)
  exact ⟨v, vm₁, B, X₁.warmed, X', hpost, fun target h => hstep₁ _ fun acts => by rw [doInvoke_state]; exact hsteps.trans h⟩
theorem vx_runSW {y : MethodName} {bytes cc : ByteArray} {maxL nL mc ms n index : Nat} {ret : Option FieldType} {hh : List (Nat × Nat × Nat × Nat)} {ws : List Cond} {rm : Room} {Pc : Array Value → State → Prop} {Qc : Array Value → State → Outcome → State → Prop} {free : Addr → Prop} {Ts : List Cond} {own : String} {As rest : List Value} {g : JFrame}
    (S : CallFix p m c cc nL s args Ts own) (hM : Met l y ws rm Pc Qc mc ms free) (cw : vx_CSW R s args own index y bytes maxL ret hh ws rm mc ms n) (hp : PreS s H Pc As)
    (hg : g.method = m) (hn : As.length = n) (hsize : g.locals.size = nL) (hstack : g.stack = As.reverse ++ rest) (hW : 2 * g.monitorRoom + (rest.map fun v => v.category).sum ≤ 8) (hdg : decode cc g.pc = .ok (.invokestatic index, 3)) (hf : cells + mc ≤ R.cells ∧ slots + ms ≤ R.slots) :
    va_Run p l e R s m args below meth c H locs cells slots mc ms g rest (Qc As.toArray) (free) := by
  obtain ⟨⟨hrc, hrs, hfr, hlo, hws, hcw⟩, hcode, hini, hy, hlen, hl, hstt⟩ := cw
  have hK : Back l R p e below s args y 3 8 (PreOf R mc ms Pc) (PostOf Qc mc ms free) := va_backW (hh := hh) (bytes := bytes) (maxL := maxL) (ret := ret) hM hp.1 hrc hrs hfr hlo hws hcw (fun a' U hW => word_at hW (Or.inl (by first | rfl | simp [Cond.onTables, Cond.keeps, Cond.steady])) hini)
  obtain ⟨hx, hb, hml, ho, -⟩ := S
  intro T hT X
  obtain ⟨v, vm₁, ⟨U', l2, c2, s2⟩, hW₁, X', ⟨g', mk, t, L, e1, e2, hq, h1, hL, h2, h3⟩, st⟩ := vx_callSW X hx (hh := hh) (bytes := bytes) (maxL := maxL) (ret := ret) ho hl hstt hini hcode hy hK hg (hsize.trans hml.symm) (argsL := As) (rest := rest) (fun sig h => hn.trans (hlen sig h)) hstack hW (by rw [hb]; exact hdg)
    (fun vm₁ hW₁ => ⟨hf.1, hf.2, hp.2 (T.setVm vm₁) hT hW₁⟩)
  dsimp only [Pt.U, Pt.locs, Pt.cells, Pt.slots] at X' e1 e2 h1 h2 h3 st
  subst h1; subst h2; subst h3
  exact ⟨v, (T.setVm vm₁).calling g' mk As.toArray, t, U', L, hT, X', hL, e1, e2, hq, st⟩
/-- a thing of a world lies in the heap -/
theorem vx_lt {D : va_G} {cl : List vw_C} {ws : va_W} {H1 : Heap} (h : va_P D cl ws H1) {k : Nat} {q : Nat × va_E} (hk : ws[k]? = some q) : q.1 < H1.size := (h k q hk).lt
end VXS
/-! ===== END ===== -/
/-! ===== BEGIN methods with a table of their own: called by a name, returning or throwing ===== -/
section VXH
/-! vx_backW, vx_callVX, vx_callSX, vx_callVW, vx_runVW, vx_runVX, vx_runSX, vx_ofWH follow the same proofs as their sisters above (Free/Laws.lean, Shelf42/LK1.lean); vx_outP calls Shelf42/NT130.lean (outThrough). -/
section
variable {l : Launch} {R : Room} {p : Program} {e : Env} {below : List Frame} {s : State} {sargs : Array Value} {y : MethodName} {len W9 : Nat}
theorem vx_backW {ws : List Cond} {rm : Room} {Pc : Array Value → State → Prop} {Qc : Array Value → State → Outcome → State → Prop} {XC : String → State → State → Prop} {mc ms : Nat} {free : Addr → Prop} {bytes : ByteArray} {maxL : Nat} {ret : Option FieldType} {hh : List (Nat × Nat × Nat × Nat)}
    (hM : vx_Met l y ws rm Pc Qc XC mc ms free) (hblind : FrameBlind Pc) (hrc : rm.cells = mc) (hrs : rm.slots = ms)
    (hframes : rm.frames + 1 ≤ R.frames) (hlocals : W9 + (maxL + 11) + rm.locals ≤ R.locals)
    (hws : ∀ w ∈ ws, ∀ a' U, s.WarmedH U.vm → w.before a' U = true) (hcode : Cond.codeWith y bytes maxL ret hh ∈ ws) (hinit : ∀ a' U, s.WarmedH U.vm → (Cond.initialized y.cls).before a' U = true) :
    vx_Back l R p e below s sargs y len W9 (PreOf R mc ms Pc) (PostOf Qc mc ms free) (vx_Post XC mc ms free) := by
  intro m meth c A g ig mk a X hg hsize hdg hW hn hp
  have h1 : (headSpec ws rm).pre.before a A.U = true := atoms_intro fun w hw => hws w hw _ _ X.warmed
  have h2 : (Cond.codeWith y bytes maxL ret hh).before a A.U = true := hws _ hcode _ _ X.warmed
  have h3 : (Cond.initialized y.cls).before a A.U = true := hinit _ _ X.warmed
  have h4 : A.cells + (headSpec ws rm).room.cells ≤ R.cells := by rw [show (headSpec ws rm).room.cells = mc from hrc]; exact hp.1
  have h5 : A.slots + (headSpec ws rm).room.slots ≤ R.slots := by rw [show (headSpec ws rm).room.slots = ms from hrs]; exact hp.2.1
  have hPc : Pc a (A.U.calling g mk a) := hblind _ _ _ _ hp.2.2
  obtain ⟨U, Ls, c0, s0⟩ := A
  dsimp only [Pt.U, Pt.locs, Pt.cells, Pt.slots] at h1 h2 h3 h4 h5 X hn hPc ⊢
  obtain ⟨m9, methY, cY, hn9, hmY, hcY, -, hlY, -⟩ := Cond.codeWith_spec h2
  cases Option.some.inj (hn9.symm.trans hn)
  obtain ⟨kY, hkY, -⟩ := className_of_methodNamed hn
  have hinitY : kY.init = .initialized := Cond.initialized_spec (findClass_of_methodNamed hn) hkY h3
  have h : At U g.method c below := by rw [hg]; exact X.here
  have hlocals9 : W9 + (maxL + 11) + (headSpec ws rm).room.locals ≤ R.locals := hlocals
  have happ : (headSpec ws rm).appliesLoose y e.platform (U.calling g mk a) = true :=
    Spec.appliesLoose_calling (g := g) h hdg hn hkY hinitY
      (X.room_calling (g := g) (R' := (headSpec ws rm).room) hsize hmY hcY hframes (by rw [hlY]; omega) h4 h5) h1
  obtain ⟨mid, hmid⟩ := h.above
  have hfr : (U.setTop g).frames = (.java g :: mid) ++ below := by rw [State.frames_setTop' g h.top, hmid]; rfl
  obtain ⟨o, s₂, hsteps, -, hend, hq⟩ := Steps.callFree hM p X.admits X.cas X.clock (acts := []) hfr happ hPc trivial
  have hq' : vx_Q Qc XC mc ms free a (U.calling g mk a) o s₂ := hq
  rw [State.frames_setTop' g h.top] at hend
  obtain ⟨g₀, hg0⟩ := Option.isSome_iff_exists.mp h.top
  obtain ⟨r, hr⟩ := State.topJava?_eq_some.mp hg0
  have hr' : (({ U with heap := s₂.heap, slotsUsed := s₂.slotsUsed } : State).setVm s₂.vm).frames = .java g₀ :: r := hr
  rcases hq' with ⟨hqc, L, hfe, hL⟩ | ⟨q, rfl, E, ce, L, hx, hce, hcv, hcl, hW₂, hsm, hL⟩
  · obtain ⟨⟨v, rfl⟩, hW₂, e2, q2, q3, q4, q5, q6⟩ := id hfe
    have e3 : s₂ = ({ (U.calling g mk a).setFrames s₂.frames with heap := s₂.heap, slotsUsed := s₂.slotsUsed } : State).setVm s₂.vm := by
      have : s₂ = ({ s₂ with vm := (U.calling g mk a).vm } : State).setVm s₂.vm := rfl
      rw [e2] at this
      exact this
    obtain ⟨c₂, i₂, len₂, hc₂, hd₂, hf₂⟩ := hend
    have hW' : U.WarmedH s₂.vm := hW₂
    have hcc : c₂ = c := by
      have h1 : s₂.code? g.method = U.code? g.method := by
        rw [State.code?_eq, State.code?_eq, hW'.alike.method?]
      exact Option.some.inj (hc₂.symm.trans (h1.trans h.code))
    subst hcc
    have hlen : len₂ = len := by rw [hdg] at hd₂; cases hd₂; rfl
    subst hlen
    have hs₂ : s₂ = (({ U with heap := s₂.heap, slotsUsed := s₂.slotsUsed } : State).setVm s₂.vm).setTop { g with pc := g.pc + len₂, stack := v.toList ++ g.stack } := by
      refine e3.trans ?_
      rw [hf₂, State.calling_eq h.top, State.setFrames_setFrames, State.setTop_of_frames _ hr', hr]
      rfl
    have hsame : U.sameButNew ({ U with heap := s₂.heap, slotsUsed := s₂.slotsUsed } : State) L mc ms := by
      refine ⟨?_, q2, q3, q4, q5, q6⟩
      obtain ⟨t, ht, -⟩ := State.frames_cons hr
      show ({ U with heap := s₂.heap, slotsUsed := s₂.slotsUsed } : State) = { U.setFrames U.frames with heap := s₂.heap, slotsUsed := s₂.slotsUsed }
      rw [State.setFrames_self ht]
    subst hg
    refine Or.inl ⟨v, ⟨(({ U with heap := s₂.heap, slotsUsed := s₂.slotsUsed } : State).setVm s₂.vm), Ls ++ L, c0 + mc, s0 + ms⟩,
      ⟨X.admits, X.cas, X.clock, X.frames, X.room, X.hears, X.method, X.code, (X.here.setHeapUsed s₂.heap s₂.slotsUsed).setVm hW'.alike, X.tail, State.WarmedH.trans X.warmed hW', X.limits, X.bytes, X.same.trans (hsame.setVm s.vm)⟩,
      ⟨g, mk, s₂, L, rfl, rfl, hqc, rfl, hL, rfl, rfl⟩, ?_⟩
    show Steps p.tables e below _ ((({ U with heap := s₂.heap, slotsUsed := s₂.slotsUsed } : State).setVm s₂.vm).setTop { g with pc := g.pc + len₂, stack := v.toList ++ g.stack })
    rw [← hs₂]
    exact hsteps
  · obtain ⟨e2, q2, q3, q4, q5, q6⟩ := id hsm
    have e3 : s₂ = ({ (U.calling g mk a).setFrames s₂.frames with heap := s₂.heap, slotsUsed := s₂.slotsUsed } : State).setVm s₂.vm := by
      have : s₂ = ({ s₂ with vm := (U.calling g mk a).vm } : State).setVm s₂.vm := rfl
      rw [e2] at this
      exact this
    have hf₂ : s₂.frames = .throwing q :: .java g :: U.frames.tail := hend
    have hW' : U.WarmedH s₂.vm := hW₂
    have hs₂ : s₂ = ((({ U with heap := s₂.heap, slotsUsed := s₂.slotsUsed } : State).setVm s₂.vm).setTop g).pushFrame (.throwing q) := by
      refine e3.trans ?_
      rw [hf₂, State.calling_eq h.top, State.setFrames_setFrames, State.pushFrame, State.frames_setTop _ hr', State.setTop_of_frames _ hr', State.setFrames_setFrames, hr]
      rfl
    have hsame : U.sameButNew ({ U with heap := s₂.heap, slotsUsed := s₂.slotsUsed } : State) L mc ms := by
      refine ⟨?_, q2, q3, q4, q5, q6⟩
      obtain ⟨t, ht, -⟩ := State.frames_cons hr
      show ({ U with heap := s₂.heap, slotsUsed := s₂.slotsUsed } : State) = { U.setFrames U.frames with heap := s₂.heap, slotsUsed := s₂.slotsUsed }
      rw [State.setFrames_self ht]
    subst hg
    refine Or.inr ⟨q, ⟨(({ U with heap := s₂.heap, slotsUsed := s₂.slotsUsed } : State).setVm s₂.vm), Ls ++ L, c0 + mc, s0 + ms⟩,
      ⟨X.admits, X.cas, X.clock, X.frames, X.room, X.hears, X.method, X.code, (X.here.setHeapUsed s₂.heap s₂.slotsUsed).setVm hW'.alike, X.tail, State.WarmedH.trans X.warmed hW', X.limits, X.bytes, X.same.trans (hsame.setVm s.vm)⟩,
      ⟨g, mk, s₂, L, E, ce, rfl, rfl, hx, hce, hcv, hcl, rfl, hL, rfl, rfl⟩, ?_⟩
    show Steps p.tables e below _ (((({ U with heap := s₂.heap, slotsUsed := s₂.slotsUsed } : State).setVm s₂.vm).setTop g).pushFrame (.throwing q))
    rw [← hs₂]
    exact hsteps
end
variable {p : Program} {l : Launch} {e : Env} {R : Room} {s : State} {m : MethodId} {args : Array Value} {below : List Frame} {meth : Method} {c : Code} {T : State} {H : Heap} {locs : List Loc} {cells slots : Nat}
theorem vx_callVX (X : Stand p l e R s m args below meth c T locs cells slots) (hexec : p.tables.exec = Jvm.exec) {own C : String} {index : Nat} {y : MethodName} {bytes : ByteArray} {maxL : Nat} {ret : Option FieldType} {hh : List (Nat × Nat × Nat × Nat)}
    (hown : s.vm.findClass own = some m.cls) (hlink : (Cond.methodLink own index y).before args s = true) (hinst : (Cond.instanceMethod y).before args s = true) (hsel : (Cond.selects C y y).before args s = true)
    (hcode : (Cond.codeWith y bytes maxL ret hh).before args s = true) (hy : y.cls ≠ "java/lang/invoke/MethodHandle" ∧ y.cls ≠ "java/lang/invoke/VarHandle")
    {W9 : Nat} {Pre : Pt → Array Value → Prop} {Post : Pt → Array Value → Option Value → Pt → Prop} {PostX : Pt → Array Value → Addr → Pt → Prop} (hK : vx_Back l R p e below s args y 3 W9 Pre Post PostX)
    {b : Addr} {cellB : Cell} (hcell : T.heap[b]? = some cellB) (hobj : cellB.vm.isStatics = false) (hcls : s.vm.findClass C = some cellB.cls)
    {g : JFrame} (hg : g.method = m) (hsize : g.locals.size = c.maxLocals) {argsL rest : List Value} (hlen : ∀ sig, parseMethodDescriptor y.desc = some sig → argsL.length = sig.parameters.length)
    (hstack : g.stack = argsL.reverse ++ .ref b :: rest) (hW : 2 * g.monitorRoom + (rest.map fun v => v.category).sum ≤ W9) (hdg : decode c.code g.pc = .ok (.invokevirtual index, 3))
    (hpre : ∀ vm₁, s.WarmedH vm₁ → Pre ⟨T.setVm vm₁, locs, cells, slots⟩ (Value.ref b :: argsL).toArray) :
    (∃ (v : Option Value) (vm₁ : Vm) (B : Pt), s.WarmedH vm₁ ∧ Stand p l e R s m args below meth c B.U B.locs B.cells B.slots ∧ Post ⟨T.setVm vm₁, locs, cells, slots⟩ (Value.ref b :: argsL).toArray v B ∧
      ∀ target, Steps p.tables e below (B.U.setTop { g with pc := g.pc + 3, stack := v.toList ++ rest }) target → Steps p.tables e below (T.setTop g) target) ∨
    (∃ (q : Addr) (vm₁ : Vm) (B : Pt), s.WarmedH vm₁ ∧ Stand p l e R s m args below meth c B.U B.locs B.cells B.slots ∧ PostX ⟨T.setVm vm₁, locs, cells, slots⟩ (Value.ref b :: argsL).toArray q B ∧
      Steps p.tables e below (T.setTop g) ((B.U.setTop { g with stack := rest }).pushFrame (.throwing q))) := by
  obtain ⟨mk, methM, hnamed, hmethM, hstM, habM⟩ := Cond.instanceMethod_spec hinst
  obtain ⟨m8, methM', cM, hn8, hmethM', -, -, -, -, -, -, hsigM⟩ := Cond.codeWith_spec hcode
  cases Option.some.inj (hn8.symm.trans hnamed)
  cases hmethM.symm.trans hmethM'
  obtain ⟨c2, r2, m2, q1, q2, q3, q4, kP, hkP, hkPi⟩ := Cond.selects_spec hsel
  cases hcls.symm.trans q1
  cases (State.methodFound?_of_named hnamed hy).symm.trans q2
  cases hnamed.symm.trans q3
  have hselP : selectMethod e.platform s.vm cellB.cls mk = .method mk := by rw [Launch.admits_selectMethod X.admits]; exact q4
  obtain ⟨vm₁, X₁, hstep₁⟩ := X.invokevirtual hexec hown hlink hnamed hmethM hstM hkP hkPi hy (a := b) (cell := cellB) hcell
    (fun z h => by rw [h] at hobj; cases hobj) hselP hmethM habM hkP hkPi (g := g) hg (argsL := argsL) (rest := rest) (hlen _ hsigM) hstack hdg
  rcases hK m meth c ⟨T.setVm vm₁, locs, cells, slots⟩ { g with stack := rest } (.invokevirtual index) mk (Value.ref b :: argsL).toArray X₁ hg hsize hdg hW (X₁.named hnamed) (hpre vm₁ X₁.warmed) with ⟨v, B, X', hpost, hsteps⟩ | ⟨q, B, X', hpost, hsteps⟩
  · exact Or.inl ⟨v, vm₁, B, X₁.warmed, X', hpost, fun target h => hstep₁ _ fun acts => by rw [doInvoke_state]; exact hsteps.trans h⟩
  · exact Or.inr ⟨q, vm₁, B, X₁.warmed, X', hpost, hstep₁ _ fun acts => by rw [doInvoke_state]; exact hsteps⟩
theorem vx_callSX (X : Stand p l e R s m args below meth c T locs cells slots) (hexec : p.tables.exec = Jvm.exec) {own : String} {index : Nat} {y : MethodName} {bytes : ByteArray} {maxL : Nat} {ret : Option FieldType} {hh : List (Nat × Nat × Nat × Nat)}
    (hown : s.vm.findClass own = some m.cls) (hlink : (Cond.methodLink own index y).before args s = true) (hstat : (Cond.static y).before args s = true) (hinit : (Cond.initialized y.cls).before args s = true)
    (hcode : (Cond.codeWith y bytes maxL ret hh).before args s = true) (hy : y.cls ≠ "java/lang/invoke/MethodHandle" ∧ y.cls ≠ "java/lang/invoke/VarHandle")
    {W9 : Nat} {Pre : Pt → Array Value → Prop} {Post : Pt → Array Value → Option Value → Pt → Prop} {PostX : Pt → Array Value → Addr → Pt → Prop} (hK : vx_Back l R p e below s args y 3 W9 Pre Post PostX)
    {g : JFrame} (hg : g.method = m) (hsize : g.locals.size = c.maxLocals) {argsL rest : List Value} (hlen : ∀ sig, parseMethodDescriptor y.desc = some sig → argsL.length = sig.parameters.length)
    (hstack : g.stack = argsL.reverse ++ rest) (hW : 2 * g.monitorRoom + (rest.map fun v => v.category).sum ≤ W9) (hdg : decode c.code g.pc = .ok (.invokestatic index, 3))
    (hpre : ∀ vm₁, s.WarmedH vm₁ → Pre ⟨T.setVm vm₁, locs, cells, slots⟩ argsL.toArray) :
    (∃ (v : Option Value) (vm₁ : Vm) (B : Pt), s.WarmedH vm₁ ∧ Stand p l e R s m args below meth c B.U B.locs B.cells B.slots ∧ Post ⟨T.setVm vm₁, locs, cells, slots⟩ argsL.toArray v B ∧
      ∀ target, Steps p.tables e below (B.U.setTop { g with pc := g.pc + 3, stack := v.toList ++ rest }) target → Steps p.tables e below (T.setTop g) target) ∨
    (∃ (q : Addr) (vm₁ : Vm) (B : Pt), s.WarmedH vm₁ ∧ Stand p l e R s m args below meth c B.U B.locs B.cells B.slots ∧ PostX ⟨T.setVm vm₁, locs, cells, slots⟩ argsL.toArray q B ∧
      Steps p.tables e below (T.setTop g) ((B.U.setTop { g with stack := rest }).pushFrame (.throwing q))) := by
  obtain ⟨mk, methM, cM, hnamed, hmethM, -, -, -, -, -, -, hsigM⟩ := Cond.codeWith_spec hcode
  have hstatic : methM.isStatic = true := Cond.static_spec hnamed hmethM hstat
  obtain ⟨kP, hkP, -⟩ := className_of_methodNamed hnamed
  have hinitP : kP.init = .initialized := Cond.initialized_spec (findClass_of_methodNamed hnamed) hkP hinit
  obtain ⟨vm₁, X₁, hstep₁⟩ := X.invokestatic hexec hown hlink hnamed hmethM hstatic hkP hinitP hy (g := g) hg (argsL := argsL) (rest := rest) (hlen _ hsigM) hstack hdg
  rcases hK m meth c ⟨T.setVm vm₁, locs, cells, slots⟩ { g with stack := rest } (.invokestatic index) mk argsL.toArray X₁ hg hsize hdg hW (X₁.named hnamed) (hpre vm₁ X₁.warmed) with ⟨v, B, X', hpost, hsteps⟩ | ⟨q, B, X', hpost, hsteps⟩
  · exact Or.inl ⟨v, vm₁, B, X₁.warmed, X', hpost, fun target h => hstep₁ _ fun acts => by rw [doInvoke_state]; exact hsteps.trans h⟩
  · exact Or.inr ⟨q, vm₁, B, X₁.warmed, X', hpost, hstep₁ _ fun acts => by rw [doInvoke_state]; exact hsteps⟩
theorem vx_callVW (X : Stand p l e R s m args below meth c T locs cells slots) (hexec : p.tables.exec = Jvm.exec) {own C : String} {index : Nat} {y : MethodName} {bytes : ByteArray} {maxL : Nat} {ret : Option FieldType} {hh : List (Nat × Nat × Nat × Nat)}
    (hown : s.vm.findClass own = some m.cls) (hlink : (Cond.methodLink own index y).before args s = true) (hinst : (Cond.instanceMethod y).before args s = true) (hsel : (Cond.selects C y y).before args s = true)
    (hcode : (Cond.codeWith y bytes maxL ret hh).before args s = true) (hy : y.cls ≠ "java/lang/invoke/MethodHandle" ∧ y.cls ≠ "java/lang/invoke/VarHandle")
    {W9 : Nat} {Pre : Pt → Array Value → Prop} {Post : Pt → Array Value → Option Value → Pt → Prop} (hK : Back l R p e below s args y 3 W9 Pre Post)
    {b : Addr} {cellB : Cell} (hcell : T.heap[b]? = some cellB) (hobj : cellB.vm.isStatics = false) (hcls : s.vm.findClass C = some cellB.cls)
    {g : JFrame} (hg : g.method = m) (hsize : g.locals.size = c.maxLocals) {argsL rest : List Value} (hlen : ∀ sig, parseMethodDescriptor y.desc = some sig → argsL.length = sig.parameters.length)
    (hstack : g.stack = argsL.reverse ++ .ref b :: rest) (hW : 2 * g.monitorRoom + (rest.map fun v => v.category).sum ≤ W9) (hdg : decode c.code g.pc = .ok (.invokevirtual index, 3))
    (hpre : ∀ vm₁, s.WarmedH vm₁ → Pre ⟨T.setVm vm₁, locs, cells, slots⟩ (Value.ref b :: argsL).toArray) :
    ∃ (v : Option Value) (vm₁ : Vm) (B : Pt), s.WarmedH vm₁ ∧ Stand p l e R s m args below meth c B.U B.locs B.cells B.slots ∧ Post ⟨T.setVm vm₁, locs, cells, slots⟩ (Value.ref b :: argsL).toArray v B ∧
      ∀ target, Steps p.tables e below (B.U.setTop { g with pc := g.pc + 3, stack := v.toList ++ rest }) target → Steps p.tables e below (T.setTop g) target := by
  obtain ⟨mk, methM, hnamed, hmethM, hstM, habM⟩ := Cond.instanceMethod_spec hinst
  obtain ⟨m8, methM', cM, hn8, hmethM', -, -, -, -, -, -, hsigM⟩ := Cond.codeWith_spec hcode
  cases Option.some.inj (hn8.symm.trans hnamed)
  cases hmethM.symm.trans hmethM'
  obtain ⟨c2, r2, m2, q1, q2, q3, q4, kP, hkP, hkPi⟩ := Cond.selects_spec hsel
  cases hcls.symm.trans q1
  cases (State.methodFound?_of_named hnamed hy).symm.trans q2
  cases hnamed.symm.trans q3
  have hselP : selectMethod e.platform s.vm cellB.cls mk = .method mk := by rw [Launch.admits_selectMethod X.admits]; exact q4
  obtain ⟨vm₁, X₁, hstep₁⟩ := X.invokevirtual hexec hown hlink hnamed hmethM hstM hkP hkPi hy (a := b) (cell := cellB) hcell
    (fun z h => by rw [h] at hobj; cases hobj) hselP hmethM habM hkP hkPi (g := g) hg (argsL := argsL) (rest := rest) (hlen _ hsigM) hstack hdg
  obtain ⟨v, B, X', hpost, hsteps⟩ := hK m meth c ⟨T.setVm vm₁, locs, cells, slots⟩ { g with stack := rest } (.invokevirtual index) mk (Value.ref b :: argsL).toArray X₁ hg hsize hdg hW (X₁.named hnamed) (hpre vm₁ X₁.warmed)
  exact ⟨v, vm₁, B, X₁.warmed, X', hpost, fun target h => hstep₁ _ fun acts => by rw [doInvoke_state]; exact hsteps.trans h⟩
abbrev vx_CVW (R : Room) (s : State) (args : Array Value) (own C : String) (index : Nat) (y : MethodName) (bytes : ByteArray) (maxL : Nat) (ret : Option FieldType) (hh : List (Nat × Nat × Nat × Nat)) (ws : List Cond) (rm : Room) (mc ms n : Nat) : Prop :=
  (rm.cells = mc ∧ rm.slots = ms ∧ rm.frames + 1 ≤ R.frames ∧ 8 + (maxL + 11) + rm.locals ≤ R.locals ∧ (∀ w ∈ ws, ∀ (a' : Array Value) (U : State), s.WarmedH U.vm → w.before a' U = true) ∧ Cond.codeWith y bytes maxL ret hh ∈ ws) ∧
  (Cond.codeWith y bytes maxL ret hh).before args s = true ∧ (Cond.initialized y.cls).before args s = true ∧ (y.cls ≠ "java/lang/invoke/MethodHandle" ∧ y.cls ≠ "java/lang/invoke/VarHandle") ∧
  (∀ sig, parseMethodDescriptor y.desc = some sig → n = sig.parameters.length) ∧ (Cond.methodLink own index y).before args s = true ∧ (Cond.instanceMethod y).before args s = true ∧ (Cond.selects C y y).before args s = true
theorem vx_cwVW {own C : String} {index maxL mc ms : Nat} {y : MethodName} {bytes : ByteArray} {ret : Option FieldType} {hh : List (Nat × Nat × Nat × Nat)} {Ts ws ws' : List Cond} {rm : Room} (n : Nat) (ht : ∀ w ∈ Ts, w.before args s = true) (hT : GoodIn Ts (wsV own index C y ws)) (hw : ws = Cond.codeWith y bytes maxL ret hh :: ws') (hrc : rm.cells = mc) (hrs : rm.slots = ms)
    (hd : y.cls = C ∧ y.cls ≠ "java/lang/invoke/MethodHandle" ∧ y.cls ≠ "java/lang/invoke/VarHandle" ∧ (parseMethodDescriptor y.desc).map (fun d => d.parameters.length) = some n) (hR : rm.frames + 1 ≤ R.frames ∧ 8 + (maxL + 11) + rm.locals ≤ R.locals) :
    vx_CVW R s args own C index y bytes maxL ret hh ws rm mc ms n := by
  obtain ⟨hC, hd⟩ := hd
  subst hC
  have ok : ∀ w ∈ wsV own index y.cls y ws, w.before args s = true := fun w h => ht w (hT w h).1
  have hG : GoodIn Ts ws := fun w h => hT w (by unfold wsV; exact List.mem_append_right _ h)
  have hc : Cond.codeWith y bytes maxL ret hh ∈ ws := by rw [hw]; exact List.mem_cons_self
  refine ⟨⟨hrc, hrs, hR.1, hR.2, pay_in ht hG, hc⟩, ht _ (hG _ hc).1, ok _ (by simp [wsV]), ⟨hd.1, hd.2.1⟩, fun sig h => ?_, ok _ (by simp [wsV]), ok _ (by simp [wsV]), ok _ (by simp [wsV])⟩
  have h2 := hd.2.2
  rw [h] at h2
  exact (Option.some.inj h2).symm
theorem vx_runVW {y : MethodName} {bytes cc : ByteArray} {maxL nL mc ms n index : Nat} {ret : Option FieldType} {hh : List (Nat × Nat × Nat × Nat)} {ws : List Cond} {rm : Room} {Pc : Array Value → State → Prop} {Qc : Array Value → State → Outcome → State → Prop} {free : Addr → Prop} {Ts : List Cond} {own C : String} {b : Addr} {As rest : List Value} {g : JFrame}
    (S : CallFix p m c cc nL s args Ts own) (hM : Met l y ws rm Pc Qc mc ms free) (cw : vx_CVW R s args own C index y bytes maxL ret hh ws rm mc ms n) (hp : PreV s H C b Pc As)
    (hg : g.method = m) (hn : As.length = n) (hsize : g.locals.size = nL) (hstack : g.stack = As.reverse ++ .ref b :: rest) (hW : 2 * g.monitorRoom + (rest.map fun v => v.category).sum ≤ 8) (hdg : decode cc g.pc = .ok (.invokevirtual index, 3)) (hf : cells + mc ≤ R.cells ∧ slots + ms ≤ R.slots) :
    va_Run p l e R s m args below meth c H locs cells slots mc ms g rest (Qc (Value.ref b :: As).toArray) free := by
  obtain ⟨⟨hrc, hrs, hfr, hlo, hws, hcw⟩, hcode, hini, hy, hlen, hl, hin, hse⟩ := cw
  have hK : Back l R p e below s args y 3 8 (PreOf R mc ms Pc) (PostOf Qc mc ms free) := va_backW (hh := hh) (bytes := bytes) (maxL := maxL) (ret := ret) hM hp.1 hrc hrs hfr hlo hws hcw (fun a' U hW => word_at hW (Or.inl (by first | rfl | simp [Cond.onTables, Cond.keeps, Cond.steady])) hini)
  obtain ⟨hx, hb, hml, ho, -⟩ := S
  obtain ⟨-, ⟨cellB, hcB, hoB, hclB⟩, hPc⟩ := hp
  intro T hT X
  obtain ⟨v, vm₁, ⟨U', l2, c2, s2⟩, hW₁, X', ⟨g', mk, t, L, e1, e2, hq, h1, hL, h2, h3⟩, st⟩ := vx_callVW X hx (C := C) (hh := hh) (bytes := bytes) (maxL := maxL) (ret := ret) ho hl hin hse hcode hy hK (by rw [hT]; exact hcB) hoB hclB hg (hsize.trans hml.symm) (argsL := As) (rest := rest) (fun sig h => hn.trans (hlen sig h)) hstack hW (by rw [hb]; exact hdg)
    (fun vm₁ hW₁ => ⟨hf.1, hf.2, hPc (T.setVm vm₁) hT hW₁⟩)
  dsimp only [Pt.U, Pt.locs, Pt.cells, Pt.slots] at X' e1 e2 h1 h2 h3 st
  subst h1; subst h2; subst h3
  exact ⟨v, (T.setVm vm₁).calling g' mk (Value.ref b :: As).toArray, t, U', L, hT, X', hL, e1, e2, hq, st⟩
section
variable {y : MethodName} {bytes cc : ByteArray} {maxL nL mc ms n index : Nat} {ret : Option FieldType} {ws : List Cond} {rm : Room} {Pc : Array Value → State → Prop} {Qc : Array Value → State → Outcome → State → Prop} {XC : String → State → State → Prop} {free : Addr → Prop} {Ts : List Cond} {own C : String} {b : Addr} {As rest : List Value} {g : JFrame}
theorem vx_runVX {hh : List (Nat × Nat × Nat × Nat)} (S : CallFix p m c cc nL s args Ts own) (hM : vx_Met l y ws rm Pc Qc XC mc ms free) (cw : vx_CVW R s args own C index y bytes maxL ret hh ws rm mc ms n) (hp : PreV s H C b Pc As)
    (hg : g.method = m) (hn : As.length = n) (hsize : g.locals.size = nL) (hstack : g.stack = As.reverse ++ .ref b :: rest) (hW : 2 * g.monitorRoom + (rest.map fun v => v.category).sum ≤ 8) (hdg : decode cc g.pc = .ok (.invokevirtual index, 3)) (hf : cells + mc ≤ R.cells ∧ slots + ms ≤ R.slots) :
    vx_Run p l e R s m args below meth c H locs cells slots mc ms g rest (Qc (Value.ref b :: As).toArray) XC free := by
  obtain ⟨⟨hrc, hrs, hfr, hlo, hws, hcw⟩, hcode, hini, hy, hlen, hl, hin, hse⟩ := cw
  have hK : vx_Back l R p e below s args y 3 8 (PreOf R mc ms Pc) (PostOf Qc mc ms free) (vx_Post XC mc ms free) := vx_backW (hh := hh) (bytes := bytes) (maxL := maxL) (ret := ret) hM hp.1 hrc hrs hfr hlo hws hcw (fun a' U hW => word_at hW (Or.inl (by first | rfl | simp [Cond.onTables, Cond.keeps, Cond.steady])) hini)
  obtain ⟨hx, hb, hml, ho, -⟩ := S
  obtain ⟨-, ⟨cellB, hcB, hoB, hclB⟩, hPc⟩ := hp
  intro T hT X
  rcases vx_callVX X hx (C := C) (hh := hh) (bytes := bytes) (maxL := maxL) (ret := ret) ho hl hin hse hcode hy hK (by rw [hT]; exact hcB) hoB hclB hg (hsize.trans hml.symm) (argsL := As) (rest := rest) (fun sig h => hn.trans (hlen sig h)) hstack hW (by rw [hb]; exact hdg)
    (fun vm₁ hW₁ => ⟨hf.1, hf.2, hPc (T.setVm vm₁) hT hW₁⟩) with ⟨v, vm₁, ⟨U', l2, c2, s2⟩, hW₁, X', ⟨g', mk, t, L, e1, e2, hq, h1, hL, h2, h3⟩, st⟩ | ⟨q, vm₁, ⟨U', l2, c2, s2⟩, hW₁, X', ⟨g', mk, t, L, E, ce, e1, e2, hq, hce, hcv, hcl, h1, hL, h2, h3⟩, st⟩
  · dsimp only [Pt.U, Pt.locs, Pt.cells, Pt.slots] at X' e1 e2 h1 h2 h3 st
    subst h1; subst h2; subst h3
    exact Or.inl ⟨v, (T.setVm vm₁).calling g' mk (Value.ref b :: As).toArray, t, U', L, hT, X', hL, e1, e2, hq, st⟩
  · dsimp only [Pt.U, Pt.locs, Pt.cells, Pt.slots] at X' e1 e2 h1 h2 h3 st hcl
    subst h1; subst h2; subst h3
    exact Or.inr ⟨q, (T.setVm vm₁).calling g' mk (Value.ref b :: As).toArray, t, U', L, E, ce, hT, X', hL, e1, e2, hq, hce, hcv, vx_cls hW₁ hcl, st⟩
theorem vx_runSX {hh : List (Nat × Nat × Nat × Nat)} (S : CallFix p m c cc nL s args Ts own) (hM : vx_Met l y ws rm Pc Qc XC mc ms free) (cw : vx_CSW R s args own index y bytes maxL ret hh ws rm mc ms n) (hp : PreS s H Pc As)
    (hg : g.method = m) (hn : As.length = n) (hsize : g.locals.size = nL) (hstack : g.stack = As.reverse ++ rest) (hW : 2 * g.monitorRoom + (rest.map fun v => v.category).sum ≤ 8) (hdg : decode cc g.pc = .ok (.invokestatic index, 3)) (hf : cells + mc ≤ R.cells ∧ slots + ms ≤ R.slots) :
    vx_Run p l e R s m args below meth c H locs cells slots mc ms g rest (Qc As.toArray) XC free := by
  obtain ⟨⟨hrc, hrs, hfr, hlo, hws, hcw⟩, hcode, hini, hy, hlen, hl, hstt⟩ := cw
  have hK : vx_Back l R p e below s args y 3 8 (PreOf R mc ms Pc) (PostOf Qc mc ms free) (vx_Post XC mc ms free) := vx_backW (hh := hh) (bytes := bytes) (maxL := maxL) (ret := ret) hM hp.1 hrc hrs hfr hlo hws hcw (fun a' U hW => word_at hW (Or.inl (by first | rfl | simp [Cond.onTables, Cond.keeps, Cond.steady])) hini)
  obtain ⟨hx, hb, hml, ho, -⟩ := S
  intro T hT X
  rcases vx_callSX X hx (hh := hh) (bytes := bytes) (maxL := maxL) (ret := ret) ho hl hstt hini hcode hy hK hg (hsize.trans hml.symm) (argsL := As) (rest := rest) (fun sig h => hn.trans (hlen sig h)) hstack hW (by rw [hb]; exact hdg)
    (fun vm₁ hW₁ => ⟨hf.1, hf.2, hp.2 (T.setVm vm₁) hT hW₁⟩) with ⟨v, vm₁, ⟨U', l2, c2, s2⟩, hW₁, X', ⟨g', mk, t, L, e1, e2, hq, h1, hL, h2, h3⟩, st⟩ | ⟨q, vm₁, ⟨U', l2, c2, s2⟩, hW₁, X', ⟨g', mk, t, L, E, ce, e1, e2, hq, hce, hcv, hcl, h1, hL, h2, h3⟩, st⟩
  · dsimp only [Pt.U, Pt.locs, Pt.cells, Pt.slots] at X' e1 e2 h1 h2 h3 st
    subst h1; subst h2; subst h3
    exact Or.inl ⟨v, (T.setVm vm₁).calling g' mk As.toArray, t, U', L, hT, X', hL, e1, e2, hq, st⟩
  · dsimp only [Pt.U, Pt.locs, Pt.cells, Pt.slots] at X' e1 e2 h1 h2 h3 st hcl
    subst h1; subst h2; subst h3
    exact Or.inr ⟨q, (T.setVm vm₁).calling g' mk As.toArray, t, U', L, E, ce, hT, X', hL, e1, e2, hq, hce, hcv, vx_cls hW₁ hcl, st⟩
end
end VXH
theorem vx_ofWH {l : Launch} {y : MethodName} {ws ws' : List Cond} {rm : Room} {Pc : Array Value → State → Prop} {Qc : Array Value → State → Outcome → State → Prop} {XC : String → State → State → Prop} {mc ms : Nat} {free : Addr → Prop} {cc : ByteArray} {maxL : Nat} {ret : Option FieldType} {hh : List (Nat × Nat × Nat × Nat)}
    (hy : plainName y.cls = true) (hw : ws = Cond.codeWith y cc maxL ret hh :: ws')
    (body : ∀ p e s m args below meth c s₁, BodyLoose p l y (headSpec ws rm) cc maxL ret e s m args below meth c s₁ → c.maxLocals = maxL → Pc args s →
      W p l e (headSpec ws rm).room s m args below meth c s.heap [] 0 0 (vx_MQ below Qc XC args s mc ms free) (entryFrame m args maxL)) : vx_Met l y ws rm Pc Qc XC mc ms free := by
  refine MetFree.of_bodyS (code := cc) (maxLocals := maxL) (ret := ret) hy ?_ ?_
  · intro args s m h hn
    obtain ⟨m9, meth, c, hn9, h1, h2, h3, h4, -, h5, h6, -⟩ := Cond.codeWith_spec (atoms_spec (ws := ws) h _ (by rw [hw]; exact List.mem_cons_self))
    cases hn.symm.trans hn9
    exact ⟨meth, c, h1, h2, h3, h4, h5, h6⟩
  · intro p e s m args below meth c s₁ B hml hP _
    have hh0 : s₁.heap = s.heap := by rw [B.state]; rfl
    obtain ⟨t, a1, o, b1, b2, b3⟩ := body p e s m args below meth c s₁ B hml hP s₁ hh0 (Stand.of_body B)
    exact ⟨t, o, a1, b1, b2, b3⟩
/-! ===== END ===== -/
end
section
def RX0 : String := "OrderedVersions$Cursor"
def TX0 : u_T := fun k => match k with
  | 0 => ("OrderedVersions$Cursor", "map", "LOrderedVersions$Table;", true)
  | 1 => ("OrderedVersions$Cursor", "down", "Z", false)
  | _ => ("OrderedVersions$Cursor", "at", "I", false)
def tyX0 : Nat → FieldType := fun k => match k with
  | 0 => .object "OrderedVersions$Table"
  | 1 => .boolean
  | _ => .int
abbrev wsX00 : List Cond := u_ws RX0 TX0 3
theorem nmX0 : ∀ a, a < 3 → ∀ b, b < 3 → a ≠ b → (TX0 a).2.1 ≠ (TX0 b).2.1 := by decide +kernel
theorem tyX0_ok : ∀ k, k < 3 → parseFieldDescriptor (TX0 k).2.2.1 = some (tyX0 k) := by decide +kernel
abbrev cX0_init : ByteArray := prog_2_method_1_code
def yX0_init : MethodName := ⟨RX0, "<init>", "()V"⟩
abbrev cX0_start : ByteArray := prog_2_method_2_code
def yX0_start : MethodName := ⟨RX0, "start", "(LOrderedVersions$Table;IZ)V"⟩
abbrev cX0_stop : ByteArray := prog_2_method_3_code
def yX0_stop : MethodName := ⟨RX0, "stop", "()V"⟩
abbrev cX0_countLeft : ByteArray := prog_2_method_4_code
def yX0_countLeft : MethodName := ⟨RX0, "countLeft", "()I"⟩
abbrev cX0_goOver : ByteArray := prog_2_method_5_code
def yX0_goOver : MethodName := ⟨RX0, "goOver", "(I)V"⟩
abbrev cX0_countWrong : ByteArray := prog_2_method_6_code
def yX0_countWrong : MethodName := ⟨RX0, "countWrong", "(Z)I"⟩
def RX1 : String := "OrderedVersions$Table"
def TX1 : u_T := fun k => match k with
  | 0 => ("OrderedVersions$Table", "keys", "[I", true)
  | 1 => ("OrderedVersions$Table", "values", "[I", true)
  | _ => ("OrderedVersions$Table", "count", "I", false)
def tyX1 : Nat → FieldType := fun k => match k with
  | 0 => .array .int
  | 1 => .array .int
  | _ => .int
abbrev wsX10 : List Cond := u_ws RX1 TX1 3
theorem nmX1 : ∀ a, a < 3 → ∀ b, b < 3 → a ≠ b → (TX1 a).2.1 ≠ (TX1 b).2.1 := by decide +kernel
theorem tyX1_ok : ∀ k, k < 3 → parseFieldDescriptor (TX1 k).2.2.1 = some (tyX1 k) := by decide +kernel
abbrev cX1_init : ByteArray := prog_3_method_1_code
def yX1_init : MethodName := ⟨RX1, "<init>", "()V"⟩
abbrev cX1_isWithin : ByteArray := prog_3_method_2_code
def yX1_isWithin : MethodName := ⟨RX1, "isWithin", "(I)Z"⟩
abbrev cX1_hasAt : ByteArray := prog_3_method_3_code
def yX1_hasAt : MethodName := ⟨RX1, "hasAt", "(II)Z"⟩
abbrev cX1_countBelow : ByteArray := prog_3_method_4_code
def yX1_countBelow : MethodName := ⟨RX1, "countBelow", "(I)I"⟩
abbrev cX1_countNotAbove : ByteArray := prog_3_method_5_code
def yX1_countNotAbove : MethodName := ⟨RX1, "countNotAbove", "(I)I"⟩
abbrev cX1_nearest : ByteArray := prog_3_method_6_code
def yX1_nearest : MethodName := ⟨RX1, "nearest", "(IZ)I"⟩
abbrev cX1_insertAt : ByteArray := prog_3_method_7_code
def yX1_insertAt : MethodName := ⟨RX1, "insertAt", "(III)V"⟩
abbrev cX1_dropBetween : ByteArray := prog_3_method_8_code
def yX1_dropBetween : MethodName := ⟨RX1, "dropBetween", "(II)V"⟩
abbrev cX1_fill : ByteArray := prog_3_method_9_code
def yX1_fill : MethodName := ⟨RX1, "fill", "(IIIII)V"⟩
abbrev cX1_copyFrom : ByteArray := prog_3_method_10_code
def yX1_copyFrom : MethodName := ⟨RX1, "copyFrom", "(LOrderedVersions$Table;)V"⟩
abbrev cX1_countShared : ByteArray := prog_3_method_11_code
def yX1_countShared : MethodName := ⟨RX1, "countShared", "(LOrderedVersions$Table;Z)I"⟩
abbrev cX1_countAlikeAtStart : ByteArray := prog_3_method_12_code
def yX1_countAlikeAtStart : MethodName := ⟨RX1, "countAlikeAtStart", "(LOrderedVersions$Table;)I"⟩
abbrev cX1_takeOver : ByteArray := prog_3_method_13_code
def yX1_takeOver : MethodName := ⟨RX1, "takeOver", "(LOrderedVersions$Table;I)V"⟩
abbrev cX1_countWrong : ByteArray := prog_3_method_14_code
def yX1_countWrong : MethodName := ⟨RX1, "countWrong", "(Z)I"⟩
def RX2 : String := "OrderedVersions"
def TX2 : u_T := fun k => match k with
  | 0 => ("OrderedVersions", "present", "LOrderedVersions$Table;", true)
  | 1 => ("OrderedVersions", "versions", "[LOrderedVersions$Table;", true)
  | 2 => ("OrderedVersions", "versionTaken", "[Z", true)
  | 3 => ("OrderedVersions", "cursors", "[LOrderedVersions$Cursor;", true)
  | _ => ("OrderedVersions", "cursorTaken", "[Z", true)
def tyX2 : Nat → FieldType := fun k => match k with
  | 0 => .object "OrderedVersions$Table"
  | 1 => .array (.object "OrderedVersions$Table")
  | 2 => .array .boolean
  | 3 => .array (.object "OrderedVersions$Cursor")
  | _ => .array .boolean
abbrev wsX20 : List Cond := u_ws RX2 TX2 5
theorem nmX2 : ∀ a, a < 5 → ∀ b, b < 5 → a ≠ b → (TX2 a).2.1 ≠ (TX2 b).2.1 := by decide +kernel
theorem tyX2_ok : ∀ k, k < 5 → parseFieldDescriptor (TX2 k).2.2.1 = some (tyX2 k) := by decide +kernel
abbrev cX2_init : ByteArray := prog_1_method_1_code
def yX2_init : MethodName := ⟨RX2, "<init>", "()V"⟩
abbrev cX2_put : ByteArray := prog_1_method_2_code
def yX2_put : MethodName := ⟨RX2, "put", "(II)Z"⟩
abbrev cX2_remove : ByteArray := prog_1_method_3_code
def yX2_remove : MethodName := ⟨RX2, "remove", "(I)I"⟩
abbrev cX2_load : ByteArray := prog_1_method_4_code
def yX2_load : MethodName := ⟨RX2, "load", "(IIIII)I"⟩
abbrev cX2_cut : ByteArray := prog_1_method_5_code
def yX2_cut : MethodName := ⟨RX2, "cut", "(II)I"⟩
abbrev cX2_merge : ByteArray := prog_1_method_6_code
def yX2_merge : MethodName := ⟨RX2, "merge", "(I)I"⟩
abbrev cX2_snapshot : ByteArray := prog_1_method_7_code
def yX2_snapshot : MethodName := ⟨RX2, "snapshot", "()I"⟩
abbrev cX2_release : ByteArray := prog_1_method_8_code
def yX2_release : MethodName := ⟨RX2, "release", "(I)I"⟩
abbrev cX2_restore : ByteArray := prog_1_method_9_code
def yX2_restore : MethodName := ⟨RX2, "restore", "(I)I"⟩
abbrev cX2_size : ByteArray := prog_1_method_10_code
def yX2_size : MethodName := ⟨RX2, "size", "(I)I"⟩
abbrev cX2_get : ByteArray := prog_1_method_11_code
def yX2_get : MethodName := ⟨RX2, "get", "(II)I"⟩
abbrev cX2_rank : ByteArray := prog_1_method_12_code
def yX2_rank : MethodName := ⟨RX2, "rank", "(II)I"⟩
abbrev cX2_select : ByteArray := prog_1_method_13_code
def yX2_select : MethodName := ⟨RX2, "select", "(II)I"⟩
abbrev cX2_near : ByteArray := prog_1_method_14_code
def yX2_near : MethodName := ⟨RX2, "near", "(IIZ)I"⟩
abbrev cX2_sum : ByteArray := prog_1_method_15_code
def yX2_sum : MethodName := ⟨RX2, "sum", "(III)J"⟩
abbrev cX2_greatest : ByteArray := prog_1_method_16_code
def yX2_greatest : MethodName := ⟨RX2, "greatest", "(III)I"⟩
abbrev cX2_differs : ByteArray := prog_1_method_17_code
def yX2_differs : MethodName := ⟨RX2, "differs", "(II)I"⟩
abbrev cX2_firstDifference : ByteArray := prog_1_method_18_code
def yX2_firstDifference : MethodName := ⟨RX2, "firstDifference", "(II)I"⟩
abbrev cX2_open : ByteArray := prog_1_method_19_code
def yX2_open : MethodName := ⟨RX2, "open", "(IIZ)I"⟩
abbrev cX2_next : ByteArray := prog_1_method_20_code
def yX2_next : MethodName := ⟨RX2, "next", "(I)I"⟩
abbrev cX2_skip : ByteArray := prog_1_method_21_code
def yX2_skip : MethodName := ⟨RX2, "skip", "(II)I"⟩
abbrev cX2_peek : ByteArray := prog_1_method_22_code
def yX2_peek : MethodName := ⟨RX2, "peek", "(I)I"⟩
abbrev cX2_close : ByteArray := prog_1_method_23_code
def yX2_close : MethodName := ⟨RX2, "close", "(I)I"⟩
abbrev cX2_astray : ByteArray := prog_1_method_24_code
def yX2_astray : MethodName := ⟨RX2, "astray", "()I"⟩
abbrev cX2_mapOf : ByteArray := prog_1_method_25_code
def yX2_mapOf : MethodName := ⟨RX2, "mapOf", "(I)LOrderedVersions$Table;"⟩
abbrev cX2_snapshotOf : ByteArray := prog_1_method_26_code
def yX2_snapshotOf : MethodName := ⟨RX2, "snapshotOf", "(I)LOrderedVersions$Table;"⟩
abbrev cX2_cursorOf : ByteArray := prog_1_method_27_code
def yX2_cursorOf : MethodName := ⟨RX2, "cursorOf", "(I)LOrderedVersions$Cursor;"⟩
abbrev cX2_keyAt : ByteArray := prog_1_method_28_code
def yX2_keyAt : MethodName := ⟨RX2, "keyAt", "(LOrderedVersions$Table;I)I"⟩
abbrev cX2_isTaken : ByteArray := prog_1_method_29_code
def yX2_isTaken : MethodName := ⟨RX2, "isTaken", "([ZI)Z"⟩
abbrev cX2_leastFree : ByteArray := prog_1_method_30_code
def yX2_leastFree : MethodName := ⟨RX2, "leastFree", "([ZI)I"⟩
abbrev cX2_countTaken : ByteArray := prog_1_method_31_code
def yX2_countTaken : MethodName := ⟨RX2, "countTaken", "([ZI)I"⟩
def RX3 : String := "OrderedVersionsModel"
def TX3 : u_T := fun k => match k with
  | 0 => ("OrderedVersionsModel", "code", "I", false)
  | 1 => ("OrderedVersionsModel", "keys", "[I", true)
  | 2 => ("OrderedVersionsModel", "values", "[I", true)
  | 3 => ("OrderedVersionsModel", "sizes", "[I", true)
  | 4 => ("OrderedVersionsModel", "there", "[Z", true)
  | 5 => ("OrderedVersionsModel", "places", "[I", true)
  | _ => ("OrderedVersionsModel", "downs", "[Z", true)
def tyX3 : Nat → FieldType := fun k => match k with
  | 0 => .int
  | 1 => .array .int
  | 2 => .array .int
  | 3 => .array .int
  | 4 => .array .boolean
  | 5 => .array .int
  | _ => .array .boolean
abbrev wsX30 : List Cond := u_ws RX3 TX3 7
theorem nmX3 : ∀ a, a < 7 → ∀ b, b < 7 → a ≠ b → (TX3 a).2.1 ≠ (TX3 b).2.1 := by decide +kernel
theorem tyX3_ok : ∀ k, k < 7 → parseFieldDescriptor (TX3 k).2.2.1 = some (tyX3 k) := by decide +kernel
abbrev cX3_init : ByteArray := prog_5_method_1_code
def yX3_init : MethodName := ⟨RX3, "<init>", "()V"⟩
abbrev cX3_thrown : ByteArray := prog_5_method_2_code
def yX3_thrown : MethodName := ⟨RX3, "thrown", "()I"⟩
abbrev cX3_below : ByteArray := prog_5_method_3_code
def yX3_below : MethodName := ⟨RX3, "below", "(II)I"⟩
abbrev cX3_has : ByteArray := prog_5_method_4_code
def yX3_has : MethodName := ⟨RX3, "has", "(II)Z"⟩
abbrev cX3_upTo : ByteArray := prog_5_method_5_code
def yX3_upTo : MethodName := ⟨RX3, "upTo", "(II)I"⟩
abbrev cX3_insert : ByteArray := prog_5_method_6_code
def yX3_insert : MethodName := ⟨RX3, "insert", "(II)V"⟩
abbrev cX3_takeOut : ByteArray := prog_5_method_7_code
def yX3_takeOut : MethodName := ⟨RX3, "takeOut", "(II)V"⟩
abbrev cX3_copy : ByteArray := prog_5_method_8_code
def yX3_copy : MethodName := ⟨RX3, "copy", "(II)V"⟩
abbrev cX3_isVersion : ByteArray := prog_5_method_9_code
def yX3_isVersion : MethodName := ⟨RX3, "isVersion", "(I)Z"⟩
abbrev cX3_isSnapshot : ByteArray := prog_5_method_10_code
def yX3_isSnapshot : MethodName := ⟨RX3, "isSnapshot", "(I)Z"⟩
abbrev cX3_isCursor : ByteArray := prog_5_method_11_code
def yX3_isCursor : MethodName := ⟨RX3, "isCursor", "(I)Z"⟩
abbrev cX3_spare : ByteArray := prog_5_method_12_code
def yX3_spare : MethodName := ⟨RX3, "spare", "(II)I"⟩
abbrev cX3_put : ByteArray := prog_5_method_13_code
def yX3_put : MethodName := ⟨RX3, "put", "(II)Z"⟩
abbrev cX3_remove : ByteArray := prog_5_method_14_code
def yX3_remove : MethodName := ⟨RX3, "remove", "(I)I"⟩
abbrev cX3_load : ByteArray := prog_5_method_15_code
def yX3_load : MethodName := ⟨RX3, "load", "(IIIII)I"⟩
abbrev cX3_many : ByteArray := prog_5_method_16_code
def yX3_many : MethodName := ⟨RX3, "many", "(III)I"⟩
abbrev cX3_cut : ByteArray := prog_5_method_17_code
def yX3_cut : MethodName := ⟨RX3, "cut", "(II)I"⟩
abbrev cX3_merge : ByteArray := prog_5_method_18_code
def yX3_merge : MethodName := ⟨RX3, "merge", "(I)I"⟩
abbrev cX3_snapshot : ByteArray := prog_5_method_19_code
def yX3_snapshot : MethodName := ⟨RX3, "snapshot", "()I"⟩
abbrev cX3_release : ByteArray := prog_5_method_20_code
def yX3_release : MethodName := ⟨RX3, "release", "(I)I"⟩
abbrev cX3_restore : ByteArray := prog_5_method_21_code
def yX3_restore : MethodName := ⟨RX3, "restore", "(I)I"⟩
abbrev cX3_size : ByteArray := prog_5_method_22_code
def yX3_size : MethodName := ⟨RX3, "size", "(I)I"⟩
abbrev cX3_get : ByteArray := prog_5_method_23_code
def yX3_get : MethodName := ⟨RX3, "get", "(II)I"⟩
abbrev cX3_rank : ByteArray := prog_5_method_24_code
def yX3_rank : MethodName := ⟨RX3, "rank", "(II)I"⟩
abbrev cX3_select : ByteArray := prog_5_method_25_code
def yX3_select : MethodName := ⟨RX3, "select", "(II)I"⟩
abbrev cX3_near : ByteArray := prog_5_method_26_code
def yX3_near : MethodName := ⟨RX3, "near", "(IIZ)I"⟩
abbrev cX3_sum : ByteArray := prog_5_method_27_code
def yX3_sum : MethodName := ⟨RX3, "sum", "(III)J"⟩
abbrev cX3_greatest : ByteArray := prog_5_method_28_code
def yX3_greatest : MethodName := ⟨RX3, "greatest", "(III)I"⟩
abbrev cX3_isOther : ByteArray := prog_5_method_29_code
def yX3_isOther : MethodName := ⟨RX3, "isOther", "(III)Z"⟩
abbrev cX3_differs : ByteArray := prog_5_method_30_code
def yX3_differs : MethodName := ⟨RX3, "differs", "(II)I"⟩
abbrev cX3_firstOther : ByteArray := prog_5_method_31_code
def yX3_firstOther : MethodName := ⟨RX3, "firstOther", "(II)I"⟩
abbrev cX3_firstDifference : ByteArray := prog_5_method_32_code
def yX3_firstDifference : MethodName := ⟨RX3, "firstDifference", "(II)I"⟩
abbrev cX3_open : ByteArray := prog_5_method_33_code
def yX3_open : MethodName := ⟨RX3, "open", "(IIZ)I"⟩
abbrev cX3_isAtEnd : ByteArray := prog_5_method_34_code
def yX3_isAtEnd : MethodName := ⟨RX3, "isAtEnd", "(I)Z"⟩
abbrev cX3_goOn : ByteArray := prog_5_method_35_code
def yX3_goOn : MethodName := ⟨RX3, "goOn", "(I)V"⟩
abbrev cX3_next : ByteArray := prog_5_method_36_code
def yX3_next : MethodName := ⟨RX3, "next", "(I)I"⟩
abbrev cX3_skip : ByteArray := prog_5_method_37_code
def yX3_skip : MethodName := ⟨RX3, "skip", "(II)I"⟩
abbrev cX3_peek : ByteArray := prog_5_method_38_code
def yX3_peek : MethodName := ⟨RX3, "peek", "(I)I"⟩
abbrev cX3_close : ByteArray := prog_5_method_39_code
def yX3_close : MethodName := ⟨RX3, "close", "(I)I"⟩
abbrev cX3_astray : ByteArray := prog_5_method_40_code
def yX3_astray : MethodName := ⟨RX3, "astray", "()I"⟩
def RJx145de : String := "java/io/Serializable"
def TJx145de : u_T := fun k => match k with
  | _ => ("", "", "", false)
def tyJx145de : Nat → FieldType := fun k => match k with
  | _ => .int
abbrev wsJx145de0 : List Cond := u_ws RJx145de TJx145de 0
theorem nmJx145de : ∀ a, a < 0 → ∀ b, b < 0 → a ≠ b → (TJx145de a).2.1 ≠ (TJx145de b).2.1 := by decide +kernel
theorem tyJx145de_ok : ∀ k, k < 0 → parseFieldDescriptor (TJx145de k).2.2.1 = some (tyJx145de k) := by decide +kernel
def RJ9 : String := "java/lang/Math"
def TJ9 : u_T := fun k => match k with
  | _ => ("", "", "", false)
def tyJ9 : Nat → FieldType := fun k => match k with
  | _ => .int
abbrev wsJ90 : List Cond := u_ws RJ9 TJ9 0
theorem nmJ9 : ∀ a, a < 0 → ∀ b, b < 0 → a ≠ b → (TJ9 a).2.1 ≠ (TJ9 b).2.1 := by decide +kernel
theorem tyJ9_ok : ∀ k, k < 0 → parseFieldDescriptor (TJ9 k).2.2.1 = some (tyJ9 k) := by decide +kernel
abbrev cJ9_max_7cf53 : ByteArray := prog_10_method_65_code
def yJ9_max_7cf53 : MethodName := ⟨RJ9, "max", "(II)I"⟩
abbrev cJ9_min_7cf53 : ByteArray := prog_10_method_69_code
def yJ9_min_7cf53 : MethodName := ⟨RJ9, "min", "(II)I"⟩
def RJ10 : String := "java/lang/System"
def TJ10 : u_T := fun k => match k with
  | _ => ("", "", "", false)
def tyJ10 : Nat → FieldType := fun k => match k with
  | _ => .int
abbrev wsJ100 : List Cond := u_ws RJ10 TJ10 0
theorem nmJ10 : ∀ a, a < 0 → ∀ b, b < 0 → a ≠ b → (TJ10 a).2.1 ≠ (TJ10 b).2.1 := by decide +kernel
theorem tyJ10_ok : ∀ k, k < 0 → parseFieldDescriptor (TJ10 k).2.2.1 = some (tyJ10 k) := by decide +kernel
def RL : String := "OrderedVersionsLaw"
abbrev cL_put : ByteArray := method_3_code
def yL_put : MethodName := ⟨RL, "put", "(LOrderedVersions;II[J)I"⟩
abbrev cL_remove : ByteArray := method_4_code
def yL_remove : MethodName := ⟨RL, "remove", "(LOrderedVersions;I[J)I"⟩
abbrev cL_load : ByteArray := method_5_code
def yL_load : MethodName := ⟨RL, "load", "(LOrderedVersions;IIIII[J)I"⟩
abbrev cL_merge : ByteArray := method_6_code
def yL_merge : MethodName := ⟨RL, "merge", "(LOrderedVersions;I[J)I"⟩
abbrev cL_snapshot : ByteArray := method_7_code
def yL_snapshot : MethodName := ⟨RL, "snapshot", "(LOrderedVersions;[J)I"⟩
abbrev cL_release : ByteArray := method_8_code
def yL_release : MethodName := ⟨RL, "release", "(LOrderedVersions;I[J)I"⟩
abbrev cL_restore : ByteArray := method_9_code
def yL_restore : MethodName := ⟨RL, "restore", "(LOrderedVersions;I[J)I"⟩
abbrev cL_size : ByteArray := method_10_code
def yL_size : MethodName := ⟨RL, "size", "(LOrderedVersions;I[J)I"⟩
abbrev cL_get : ByteArray := method_11_code
def yL_get : MethodName := ⟨RL, "get", "(LOrderedVersions;II[J)I"⟩
abbrev cL_rank : ByteArray := method_12_code
def yL_rank : MethodName := ⟨RL, "rank", "(LOrderedVersions;II[J)I"⟩
abbrev cL_select : ByteArray := method_13_code
def yL_select : MethodName := ⟨RL, "select", "(LOrderedVersions;II[J)I"⟩
abbrev cL_near : ByteArray := method_14_code
def yL_near : MethodName := ⟨RL, "near", "(LOrderedVersions;IIZ[J)I"⟩
abbrev cL_sum : ByteArray := method_15_code
def yL_sum : MethodName := ⟨RL, "sum", "(LOrderedVersions;III[J)I"⟩
abbrev cL_greatest : ByteArray := method_16_code
def yL_greatest : MethodName := ⟨RL, "greatest", "(LOrderedVersions;III[J)I"⟩
abbrev cL_differs : ByteArray := method_17_code
def yL_differs : MethodName := ⟨RL, "differs", "(LOrderedVersions;II[J)I"⟩
abbrev cL_firstDifference : ByteArray := method_18_code
def yL_firstDifference : MethodName := ⟨RL, "firstDifference", "(LOrderedVersions;II[J)I"⟩
abbrev cL_open : ByteArray := method_19_code
def yL_open : MethodName := ⟨RL, "open", "(LOrderedVersions;IIZ[J)I"⟩
abbrev cL_next : ByteArray := method_20_code
def yL_next : MethodName := ⟨RL, "next", "(LOrderedVersions;I[J)I"⟩
abbrev cL_skip : ByteArray := method_21_code
def yL_skip : MethodName := ⟨RL, "skip", "(LOrderedVersions;II[J)I"⟩
abbrev cL_peek : ByteArray := method_22_code
def yL_peek : MethodName := ⟨RL, "peek", "(LOrderedVersions;I[J)I"⟩
abbrev cL_close : ByteArray := method_23_code
def yL_close : MethodName := ⟨RL, "close", "(LOrderedVersions;I[J)I"⟩
abbrev cL_law : ByteArray := code
def yL_law : MethodName := ⟨RL, "law", "([I)Z"⟩
def wsX1_init : List Cond := .code yX1_init cX1_init 1 none :: ([.methodLink RX1 3 objectInit, .instanceMethod objectInit, .code objectInit ⟨#[0xb1]⟩ 1 none, .arrayClass .int, .fieldLink RX1 9 "OrderedVersions$Table" "keys" "[I", .fieldLink RX1 15 "OrderedVersions$Table" "values" "[I"] ++ wsX10)
def wsX0_init : List Cond := .code yX0_init cX0_init 1 none :: ([.methodLink RX0 1 objectInit, .instanceMethod objectInit, .code objectInit ⟨#[0xb1]⟩ 1 none, .classLink RX0 7 RX1, .instantiable RX1 3, .initialized RX1, .fieldLink RX0 10 "OrderedVersions$Cursor" "map" "LOrderedVersions$Table;", .instanceMethod yX1_init, .code yX1_init cX1_init 1 none, .methodLink RX1 3 objectInit, .arrayClass .int, .fieldLink RX1 9 "OrderedVersions$Table" "keys" "[I", .fieldLink RX1 15 "OrderedVersions$Table" "values" "[I"] ++ wsX10 ++ wsX00)
def wsX1_copyFrom : List Cond := .code yX1_copyFrom cX1_copyFrom 2 none :: ([.fieldLink RX1 9 "OrderedVersions$Table" "keys" "[I", .fieldLink RX1 18 "OrderedVersions$Table" "count" "I", .methodLink RX1 37 arraycopyName, .native arraycopyName, .static arraycopyName, .initialized "java/lang/System", .fieldLink RX1 15 "OrderedVersions$Table" "values" "[I"] ++ wsX10)
def wsX1_countBelow : List Cond := .code yX1_countBelow cX1_countBelow 3 (some .int) :: ([.fieldLink RX1 18 "OrderedVersions$Table" "count" "I", .fieldLink RX1 9 "OrderedVersions$Table" "keys" "[I"] ++ wsX10)
def wsX1_isWithin : List Cond := .code yX1_isWithin cX1_isWithin 2 (some .boolean) :: ([.fieldLink RX1 18 "OrderedVersions$Table" "count" "I"] ++ wsX10)
def wsX1_hasAt : List Cond := .code yX1_hasAt cX1_hasAt 3 (some .boolean) :: ([.fieldLink RX1 9 "OrderedVersions$Table" "keys" "[I", .methodLink RX1 22 yX1_isWithin, .instanceMethod yX1_isWithin, .selects RX1 yX1_isWithin yX1_isWithin, .initialized RX1, .code yX1_isWithin cX1_isWithin 2 (some .boolean), .fieldLink RX1 18 "OrderedVersions$Table" "count" "I"] ++ wsX10)
def wsX1_countNotAbove : List Cond := .code yX1_countNotAbove cX1_countNotAbove 3 (some .int) :: ([.methodLink RX1 26 yX1_countBelow, .instanceMethod yX1_countBelow, .selects RX1 yX1_countBelow yX1_countBelow, .initialized RX1, .code yX1_countBelow cX1_countBelow 3 (some .int), .fieldLink RX1 18 "OrderedVersions$Table" "count" "I", .fieldLink RX1 9 "OrderedVersions$Table" "keys" "[I", .methodLink RX1 30 yX1_hasAt, .instanceMethod yX1_hasAt, .selects RX1 yX1_hasAt yX1_hasAt, .code yX1_hasAt cX1_hasAt 3 (some .boolean), .methodLink RX1 22 yX1_isWithin, .instanceMethod yX1_isWithin, .selects RX1 yX1_isWithin yX1_isWithin, .code yX1_isWithin cX1_isWithin 2 (some .boolean)] ++ wsX10)
def wsX1_nearest : List Cond := .code yX1_nearest cX1_nearest 3 (some .int) :: ([.methodLink RX1 26 yX1_countBelow, .instanceMethod yX1_countBelow, .selects RX1 yX1_countBelow yX1_countBelow, .initialized RX1, .code yX1_countBelow cX1_countBelow 3 (some .int), .fieldLink RX1 18 "OrderedVersions$Table" "count" "I", .fieldLink RX1 9 "OrderedVersions$Table" "keys" "[I", .methodLink RX1 34 yX1_countNotAbove, .instanceMethod yX1_countNotAbove, .selects RX1 yX1_countNotAbove yX1_countNotAbove, .code yX1_countNotAbove cX1_countNotAbove 3 (some .int), .methodLink RX1 30 yX1_hasAt, .instanceMethod yX1_hasAt, .selects RX1 yX1_hasAt yX1_hasAt, .code yX1_hasAt cX1_hasAt 3 (some .boolean), .methodLink RX1 22 yX1_isWithin, .instanceMethod yX1_isWithin, .selects RX1 yX1_isWithin yX1_isWithin, .code yX1_isWithin cX1_isWithin 2 (some .boolean)] ++ wsX10)
def wsX0_start_r1 : List Cond := [Cond.fieldLink RX0 10 "OrderedVersions$Cursor" "map" "LOrderedVersions$Table;", Cond.fieldLink RX0 20 "OrderedVersions$Cursor" "down" "Z", Cond.fieldLink RX0 28 "OrderedVersions$Cursor" "at" "I", Cond.methodLink RX0 16 yX1_copyFrom, Cond.instanceMethod yX1_copyFrom, Cond.selects RX1 yX1_copyFrom yX1_copyFrom, Cond.initialized RX1, Cond.code yX1_copyFrom cX1_copyFrom 2 none, Cond.fieldLink RX1 9 "OrderedVersions$Table" "keys" "[I", Cond.fieldLink RX1 18 "OrderedVersions$Table" "count" "I", Cond.methodLink RX1 37 arraycopyName, Cond.native arraycopyName, Cond.static arraycopyName, Cond.initialized "java/lang/System", Cond.fieldLink RX1 15 "OrderedVersions$Table" "values" "[I", Cond.methodLink RX0 24 yX1_nearest, Cond.instanceMethod yX1_nearest, Cond.selects RX1 yX1_nearest yX1_nearest, Cond.code yX1_nearest cX1_nearest 3 (some .int), Cond.methodLink RX1 26 yX1_countBelow, Cond.instanceMethod yX1_countBelow, Cond.selects RX1 yX1_countBelow yX1_countBelow, Cond.code yX1_countBelow cX1_countBelow 3 (some .int), Cond.methodLink RX1 34 yX1_countNotAbove]
def wsX0_start_r2 : List Cond := [Cond.instanceMethod yX1_countNotAbove, Cond.selects RX1 yX1_countNotAbove yX1_countNotAbove, Cond.code yX1_countNotAbove cX1_countNotAbove 3 (some .int), Cond.methodLink RX1 30 yX1_hasAt, Cond.instanceMethod yX1_hasAt, Cond.selects RX1 yX1_hasAt yX1_hasAt, Cond.code yX1_hasAt cX1_hasAt 3 (some .boolean), Cond.methodLink RX1 22 yX1_isWithin, Cond.instanceMethod yX1_isWithin, Cond.selects RX1 yX1_isWithin yX1_isWithin, Cond.code yX1_isWithin cX1_isWithin 2 (some .boolean)]
def wsX0_start : List Cond := .code yX0_start cX0_start 4 none :: ((wsX0_start_r1 ++ wsX0_start_r2) ++ wsX00 ++ wsX10)
def wsX0_stop : List Cond := .code yX0_stop cX0_stop 1 none :: ([.fieldLink RX0 10 "OrderedVersions$Cursor" "map" "LOrderedVersions$Table;", .fieldLink RX0 32 "OrderedVersions$Table" "count" "I", .fieldLink RX0 28 "OrderedVersions$Cursor" "at" "I"] ++ wsX00 ++ wsX10)
def wsX0_countLeft : List Cond := .code yX0_countLeft cX0_countLeft 1 (some .int) :: ([.fieldLink RX0 20 "OrderedVersions$Cursor" "down" "Z", .fieldLink RX0 28 "OrderedVersions$Cursor" "at" "I", .fieldLink RX0 10 "OrderedVersions$Cursor" "map" "LOrderedVersions$Table;", .fieldLink RX0 32 "OrderedVersions$Table" "count" "I"] ++ wsX00 ++ wsX10)
def wsX0_goOver : List Cond := .code yX0_goOver cX0_goOver 2 none :: ([.fieldLink RX0 28 "OrderedVersions$Cursor" "at" "I", .fieldLink RX0 20 "OrderedVersions$Cursor" "down" "Z"] ++ wsX00)
def wsX1_countWrong : List Cond := .code yX1_countWrong cX1_countWrong 4 (some .int) :: ([.fieldLink RX1 18 "OrderedVersions$Table" "count" "I", .fieldLink RX1 9 "OrderedVersions$Table" "keys" "[I"] ++ wsX10)
def wsX0_countWrong : List Cond := .code yX0_countWrong cX0_countWrong 3 (some .int) :: ([.fieldLink RX0 28 "OrderedVersions$Cursor" "at" "I", .fieldLink RX0 10 "OrderedVersions$Cursor" "map" "LOrderedVersions$Table;", .fieldLink RX0 32 "OrderedVersions$Table" "count" "I", .methodLink RX0 35 yX1_countWrong, .instanceMethod yX1_countWrong, .selects RX1 yX1_countWrong yX1_countWrong, .initialized RX1, .code yX1_countWrong cX1_countWrong 4 (some .int), .fieldLink RX1 18 "OrderedVersions$Table" "count" "I", .fieldLink RX1 9 "OrderedVersions$Table" "keys" "[I"] ++ wsX00 ++ wsX10)
def wsX1_insertAt : List Cond := .code yX1_insertAt cX1_insertAt 4 none :: ([.fieldLink RX1 9 "OrderedVersions$Table" "keys" "[I", .fieldLink RX1 18 "OrderedVersions$Table" "count" "I", .methodLink RX1 37 arraycopyName, .native arraycopyName, .static arraycopyName, .initialized "java/lang/System", .fieldLink RX1 15 "OrderedVersions$Table" "values" "[I"] ++ wsX10)
def wsX1_dropBetween : List Cond := .code yX1_dropBetween cX1_dropBetween 3 none :: ([.fieldLink RX1 9 "OrderedVersions$Table" "keys" "[I", .fieldLink RX1 18 "OrderedVersions$Table" "count" "I", .methodLink RX1 37 arraycopyName, .native arraycopyName, .static arraycopyName, .initialized "java/lang/System", .fieldLink RX1 15 "OrderedVersions$Table" "values" "[I"] ++ wsX10)
def wsX1_fill : List Cond := .code yX1_fill cX1_fill 8 none :: ([.fieldLink RX1 9 "OrderedVersions$Table" "keys" "[I", .fieldLink RX1 15 "OrderedVersions$Table" "values" "[I", .fieldLink RX1 18 "OrderedVersions$Table" "count" "I"] ++ wsX10)
def wsX1_countShared : List Cond := .code yX1_countShared cX1_countShared 6 (some .int) :: ([.fieldLink RX1 18 "OrderedVersions$Table" "count" "I", .fieldLink RX1 9 "OrderedVersions$Table" "keys" "[I", .fieldLink RX1 15 "OrderedVersions$Table" "values" "[I", .methodLink RX1 30 yX1_hasAt, .instanceMethod yX1_hasAt, .selects RX1 yX1_hasAt yX1_hasAt, .initialized RX1, .code yX1_hasAt cX1_hasAt 3 (some .boolean), .methodLink RX1 22 yX1_isWithin, .instanceMethod yX1_isWithin, .selects RX1 yX1_isWithin yX1_isWithin, .code yX1_isWithin cX1_isWithin 2 (some .boolean)] ++ wsX10)
def wsX1_countAlikeAtStart : List Cond := .code yX1_countAlikeAtStart cX1_countAlikeAtStart 4 (some .int) :: ([.fieldLink RX1 18 "OrderedVersions$Table" "count" "I", .methodLink RX1 43 Lib.Math.min.name, .static Lib.Math.min.name, .initialized "java/lang/Math", .code Lib.Math.min.name Lib.Math.min.code 2 (some .int), .fieldLink RX1 9 "OrderedVersions$Table" "keys" "[I", .fieldLink RX1 15 "OrderedVersions$Table" "values" "[I"] ++ wsX10)
def wsX1_takeOver : List Cond := .code yX1_takeOver cX1_takeOver 7 none :: ([.fieldLink RX1 18 "OrderedVersions$Table" "count" "I", .fieldLink RX1 9 "OrderedVersions$Table" "keys" "[I", .fieldLink RX1 15 "OrderedVersions$Table" "values" "[I", .methodLink RX1 30 yX1_hasAt, .instanceMethod yX1_hasAt, .selects RX1 yX1_hasAt yX1_hasAt, .initialized RX1, .code yX1_hasAt cX1_hasAt 3 (some .boolean), .methodLink RX1 22 yX1_isWithin, .instanceMethod yX1_isWithin, .selects RX1 yX1_isWithin yX1_isWithin, .code yX1_isWithin cX1_isWithin 2 (some .boolean)] ++ wsX10)
def wsX2_init_r1 : List Cond := [Cond.methodLink RX2 1 objectInit, Cond.instanceMethod objectInit, Cond.code objectInit ⟨#[0xb1]⟩ 1 none, Cond.classLink RX2 7 RX1, Cond.instantiable RX1 3, Cond.initialized RX1, Cond.fieldLink RX2 10 "OrderedVersions" "present" "LOrderedVersions$Table;", Cond.fieldLink RX2 16 "OrderedVersions" "versions" "[LOrderedVersions$Table;", Cond.arrayClass .boolean, Cond.fieldLink RX2 20 "OrderedVersions" "versionTaken" "[Z", Cond.classLink RX2 24 RX0, Cond.fieldLink RX2 26 "OrderedVersions" "cursors" "[LOrderedVersions$Cursor;", Cond.fieldLink RX2 30 "OrderedVersions" "cursorTaken" "[Z", Cond.instantiable RX0 3, Cond.initialized RX0, Cond.instanceMethod yX1_init, Cond.code yX1_init cX1_init 1 none, Cond.methodLink RX1 3 objectInit, Cond.arrayClass .int, Cond.fieldLink RX1 9 "OrderedVersions$Table" "keys" "[I", Cond.fieldLink RX1 15 "OrderedVersions$Table" "values" "[I", Cond.instanceMethod yX0_init, Cond.code yX0_init cX0_init 1 none, Cond.methodLink RX0 1 objectInit]
def wsX2_init_r2 : List Cond := [Cond.classLink RX0 7 RX1, Cond.fieldLink RX0 10 "OrderedVersions$Cursor" "map" "LOrderedVersions$Table;"]
def wsX2_init : List Cond := .code yX2_init cX2_init 2 none :: ((wsX2_init_r1 ++ wsX2_init_r2) ++ wsX10 ++ wsX20 ++ wsX00)
def wsX2_put_r1 : List Cond := [Cond.classLink RX2 50 "java/lang/UnsupportedOperationException", Cond.initialized "java/lang/UnsupportedOperationException", Cond.fieldLink RX2 10 "OrderedVersions" "present" "LOrderedVersions$Table;", Cond.fieldLink RX2 42 "OrderedVersions$Table" "values" "[I", Cond.fieldLink RX2 46 "OrderedVersions$Table" "count" "I", Cond.methodLink RX2 34 yX1_countBelow, Cond.instanceMethod yX1_countBelow, Cond.selects RX1 yX1_countBelow yX1_countBelow, Cond.initialized RX1, Cond.code yX1_countBelow cX1_countBelow 3 (some .int), Cond.fieldLink RX1 18 "OrderedVersions$Table" "count" "I", Cond.fieldLink RX1 9 "OrderedVersions$Table" "keys" "[I", Cond.methodLink RX2 38 yX1_hasAt, Cond.instanceMethod yX1_hasAt, Cond.selects RX1 yX1_hasAt yX1_hasAt, Cond.code yX1_hasAt cX1_hasAt 3 (some .boolean), Cond.methodLink RX1 22 yX1_isWithin, Cond.instanceMethod yX1_isWithin, Cond.selects RX1 yX1_isWithin yX1_isWithin, Cond.code yX1_isWithin cX1_isWithin 2 (some .boolean), Cond.methodLink RX2 53 yX1_insertAt, Cond.instanceMethod yX1_insertAt, Cond.selects RX1 yX1_insertAt yX1_insertAt, Cond.code yX1_insertAt cX1_insertAt 4 none]
def wsX2_put_r2 : List Cond := [Cond.methodLink RX1 37 arraycopyName, Cond.native arraycopyName, Cond.static arraycopyName, Cond.initialized "java/lang/System", Cond.fieldLink RX1 15 "OrderedVersions$Table" "values" "[I"]
def wsX2_put : List Cond := .code yX2_put cX2_put 4 (some .boolean) :: ((wsX2_put_r1 ++ wsX2_put_r2) ++ wsX20 ++ wsX10 ++ (vx_at0 RX2 52 "java/lang/UnsupportedOperationException" ["java/lang/RuntimeException", "java/lang/Exception"]).filter goodWord)
def wsX2_remove_r1 : List Cond := [Cond.classLink RX2 57 "java/util/NoSuchElementException", Cond.initialized "java/util/NoSuchElementException", Cond.fieldLink RX2 10 "OrderedVersions" "present" "LOrderedVersions$Table;", Cond.fieldLink RX2 42 "OrderedVersions$Table" "values" "[I", Cond.methodLink RX2 34 yX1_countBelow, Cond.instanceMethod yX1_countBelow, Cond.selects RX1 yX1_countBelow yX1_countBelow, Cond.initialized RX1, Cond.code yX1_countBelow cX1_countBelow 3 (some .int), Cond.fieldLink RX1 18 "OrderedVersions$Table" "count" "I", Cond.fieldLink RX1 9 "OrderedVersions$Table" "keys" "[I", Cond.methodLink RX2 38 yX1_hasAt, Cond.instanceMethod yX1_hasAt, Cond.selects RX1 yX1_hasAt yX1_hasAt, Cond.code yX1_hasAt cX1_hasAt 3 (some .boolean), Cond.methodLink RX1 22 yX1_isWithin, Cond.instanceMethod yX1_isWithin, Cond.selects RX1 yX1_isWithin yX1_isWithin, Cond.code yX1_isWithin cX1_isWithin 2 (some .boolean), Cond.methodLink RX2 60 yX1_dropBetween, Cond.instanceMethod yX1_dropBetween, Cond.selects RX1 yX1_dropBetween yX1_dropBetween, Cond.code yX1_dropBetween cX1_dropBetween 3 none, Cond.methodLink RX1 37 arraycopyName]
def wsX2_remove_r2 : List Cond := [Cond.native arraycopyName, Cond.static arraycopyName, Cond.initialized "java/lang/System", Cond.fieldLink RX1 15 "OrderedVersions$Table" "values" "[I"]
def wsX2_remove : List Cond := .code yX2_remove cX2_remove 4 (some .int) :: ((wsX2_remove_r1 ++ wsX2_remove_r2) ++ wsX20 ++ wsX10 ++ (vx_at0 RX2 59 "java/util/NoSuchElementException" ["java/lang/RuntimeException", "java/lang/Exception"]).filter goodWord)
def wsX2_load : List Cond := .code yX2_load cX2_load 9 (some .int) :: ([.classLink RX2 64 "java/lang/IllegalArgumentException", .initialized "java/lang/IllegalArgumentException", .constantLong RX2 69 (2147483647), .fieldLink RX2 10 "OrderedVersions" "present" "LOrderedVersions$Table;", .fieldLink RX2 46 "OrderedVersions$Table" "count" "I", .methodLink RX2 71 yX1_fill, .instanceMethod yX1_fill, .selects RX1 yX1_fill yX1_fill, .initialized RX1, .code yX1_fill cX1_fill 8 none, .fieldLink RX1 9 "OrderedVersions$Table" "keys" "[I", .fieldLink RX1 15 "OrderedVersions$Table" "values" "[I", .fieldLink RX1 18 "OrderedVersions$Table" "count" "I"] ++ wsX20 ++ wsX10 ++ (vx_at0 RX2 66 "java/lang/IllegalArgumentException" ["java/lang/RuntimeException", "java/lang/Exception"]).filter goodWord)
def wsX2_cut_r1 : List Cond := [Cond.fieldLink RX2 10 "OrderedVersions" "present" "LOrderedVersions$Table;", Cond.methodLink RX2 34 yX1_countBelow, Cond.instanceMethod yX1_countBelow, Cond.selects RX1 yX1_countBelow yX1_countBelow, Cond.initialized RX1, Cond.code yX1_countBelow cX1_countBelow 3 (some .int), Cond.fieldLink RX1 18 "OrderedVersions$Table" "count" "I", Cond.fieldLink RX1 9 "OrderedVersions$Table" "keys" "[I", Cond.methodLink RX2 75 yX1_countNotAbove, Cond.instanceMethod yX1_countNotAbove, Cond.selects RX1 yX1_countNotAbove yX1_countNotAbove, Cond.code yX1_countNotAbove cX1_countNotAbove 3 (some .int), Cond.methodLink RX1 26 yX1_countBelow, Cond.methodLink RX1 30 yX1_hasAt, Cond.instanceMethod yX1_hasAt, Cond.selects RX1 yX1_hasAt yX1_hasAt, Cond.code yX1_hasAt cX1_hasAt 3 (some .boolean), Cond.methodLink RX1 22 yX1_isWithin, Cond.instanceMethod yX1_isWithin, Cond.selects RX1 yX1_isWithin yX1_isWithin, Cond.code yX1_isWithin cX1_isWithin 2 (some .boolean), Cond.methodLink RX2 60 yX1_dropBetween, Cond.instanceMethod yX1_dropBetween, Cond.selects RX1 yX1_dropBetween yX1_dropBetween]
def wsX2_cut_r2 : List Cond := [Cond.code yX1_dropBetween cX1_dropBetween 3 none, Cond.methodLink RX1 37 arraycopyName, Cond.native arraycopyName, Cond.static arraycopyName, Cond.initialized "java/lang/System", Cond.fieldLink RX1 15 "OrderedVersions$Table" "values" "[I"]
def wsX2_cut : List Cond := .code yX2_cut cX2_cut 5 (some .int) :: ((wsX2_cut_r1 ++ wsX2_cut_r2) ++ wsX20 ++ wsX10)
def wsX2_isTaken : List Cond := .code yX2_isTaken cX2_isTaken 2 (some .boolean) :: ([])
def wsX2_mapOf : List Cond := .code yX2_mapOf cX2_mapOf 2 (some (.object "OrderedVersions$Table")) :: ([.classLink RX2 166 "java/lang/IndexOutOfBoundsException", .initialized "java/lang/IndexOutOfBoundsException", .fieldLink RX2 20 "OrderedVersions" "versionTaken" "[Z", .fieldLink RX2 16 "OrderedVersions" "versions" "[LOrderedVersions$Table;", .methodLink RX2 162 yX2_isTaken, .static yX2_isTaken, .initialized RX2, .code yX2_isTaken cX2_isTaken 2 (some .boolean)] ++ wsX20 ++ (vx_at0 RX2 168 "java/lang/IndexOutOfBoundsException" ["java/lang/RuntimeException", "java/lang/Exception"]).filter goodWord)
def wsX2_merge_r1 : List Cond := [Cond.classLink RX2 50 "java/lang/UnsupportedOperationException", Cond.initialized "java/lang/UnsupportedOperationException", Cond.fieldLink RX2 46 "OrderedVersions$Table" "count" "I", Cond.fieldLink RX2 10 "OrderedVersions" "present" "LOrderedVersions$Table;", Cond.methodLink RX2 78 yX2_mapOf, Cond.instanceMethod yX2_mapOf, Cond.selects RX2 yX2_mapOf yX2_mapOf, Cond.initialized RX2, Cond.code yX2_mapOf cX2_mapOf 2 (some (.object "OrderedVersions$Table")), Cond.classLink RX2 166 "java/lang/IndexOutOfBoundsException", Cond.initialized "java/lang/IndexOutOfBoundsException", Cond.fieldLink RX2 20 "OrderedVersions" "versionTaken" "[Z", Cond.fieldLink RX2 16 "OrderedVersions" "versions" "[LOrderedVersions$Table;", Cond.methodLink RX2 162 yX2_isTaken, Cond.static yX2_isTaken, Cond.code yX2_isTaken cX2_isTaken 2 (some .boolean), Cond.methodLink RX2 82 yX1_countShared, Cond.instanceMethod yX1_countShared, Cond.selects RX1 yX1_countShared yX1_countShared, Cond.initialized RX1, Cond.code yX1_countShared cX1_countShared 6 (some .int), Cond.fieldLink RX1 18 "OrderedVersions$Table" "count" "I", Cond.fieldLink RX1 9 "OrderedVersions$Table" "keys" "[I", Cond.fieldLink RX1 15 "OrderedVersions$Table" "values" "[I"]
def wsX2_merge_r2 : List Cond := [Cond.methodLink RX1 30 yX1_hasAt, Cond.instanceMethod yX1_hasAt, Cond.selects RX1 yX1_hasAt yX1_hasAt, Cond.code yX1_hasAt cX1_hasAt 3 (some .boolean), Cond.methodLink RX1 22 yX1_isWithin, Cond.instanceMethod yX1_isWithin, Cond.selects RX1 yX1_isWithin yX1_isWithin, Cond.code yX1_isWithin cX1_isWithin 2 (some .boolean), Cond.methodLink RX2 86 yX1_takeOver, Cond.instanceMethod yX1_takeOver, Cond.selects RX1 yX1_takeOver yX1_takeOver, Cond.code yX1_takeOver cX1_takeOver 7 none]
def wsX2_merge : List Cond := .code yX2_merge cX2_merge 4 (some .int) :: ((wsX2_merge_r1 ++ wsX2_merge_r2) ++ wsX10 ++ wsX20 ++ (vx_at0 RX2 52 "java/lang/UnsupportedOperationException" ["java/lang/RuntimeException", "java/lang/Exception"]).filter goodWord ++ (vx_at0 RX2 168 "java/lang/IndexOutOfBoundsException" ["java/lang/RuntimeException", "java/lang/Exception"]).filter goodWord)
def wsX2_leastFree : List Cond := .code yX2_leastFree cX2_leastFree 3 (some .int) :: ([])
def wsX2_snapshot : List Cond := .code yX2_snapshot cX2_snapshot 2 (some .int) :: ([.classLink RX2 50 "java/lang/UnsupportedOperationException", .initialized "java/lang/UnsupportedOperationException", .fieldLink RX2 20 "OrderedVersions" "versionTaken" "[Z", .fieldLink RX2 16 "OrderedVersions" "versions" "[LOrderedVersions$Table;", .fieldLink RX2 10 "OrderedVersions" "present" "LOrderedVersions$Table;", .methodLink RX2 90 yX2_leastFree, .static yX2_leastFree, .initialized RX2, .code yX2_leastFree cX2_leastFree 3 (some .int), .methodLink RX2 94 yX1_copyFrom, .instanceMethod yX1_copyFrom, .selects RX1 yX1_copyFrom yX1_copyFrom, .initialized RX1, .code yX1_copyFrom cX1_copyFrom 2 none, .fieldLink RX1 9 "OrderedVersions$Table" "keys" "[I", .fieldLink RX1 18 "OrderedVersions$Table" "count" "I", .methodLink RX1 37 arraycopyName, .native arraycopyName, .static arraycopyName, .initialized "java/lang/System", .fieldLink RX1 15 "OrderedVersions$Table" "values" "[I"] ++ wsX20 ++ wsX10 ++ (vx_at0 RX2 52 "java/lang/UnsupportedOperationException" ["java/lang/RuntimeException", "java/lang/Exception"]).filter goodWord)
def wsX2_snapshotOf : List Cond := .code yX2_snapshotOf cX2_snapshotOf 2 (some (.object "OrderedVersions$Table")) :: ([.classLink RX2 166 "java/lang/IndexOutOfBoundsException", .initialized "java/lang/IndexOutOfBoundsException", .methodLink RX2 78 yX2_mapOf, .instanceMethod yX2_mapOf, .selects RX2 yX2_mapOf yX2_mapOf, .initialized RX2, .code yX2_mapOf cX2_mapOf 2 (some (.object "OrderedVersions$Table")), .fieldLink RX2 20 "OrderedVersions" "versionTaken" "[Z", .fieldLink RX2 16 "OrderedVersions" "versions" "[LOrderedVersions$Table;", .methodLink RX2 162 yX2_isTaken, .static yX2_isTaken, .code yX2_isTaken cX2_isTaken 2 (some .boolean)] ++ wsX20 ++ (vx_at0 RX2 168 "java/lang/IndexOutOfBoundsException" ["java/lang/RuntimeException", "java/lang/Exception"]).filter goodWord)
def wsX2_countTaken : List Cond := .code yX2_countTaken cX2_countTaken 4 (some .int) :: ([])
def wsX2_release : List Cond := .code yX2_release cX2_release 2 (some .int) :: ([.fieldLink RX2 46 "OrderedVersions$Table" "count" "I", .fieldLink RX2 20 "OrderedVersions" "versionTaken" "[Z", .methodLink RX2 98 yX2_snapshotOf, .instanceMethod yX2_snapshotOf, .selects RX2 yX2_snapshotOf yX2_snapshotOf, .initialized RX2, .code yX2_snapshotOf cX2_snapshotOf 2 (some (.object "OrderedVersions$Table")), .classLink RX2 166 "java/lang/IndexOutOfBoundsException", .initialized "java/lang/IndexOutOfBoundsException", .methodLink RX2 78 yX2_mapOf, .instanceMethod yX2_mapOf, .selects RX2 yX2_mapOf yX2_mapOf, .code yX2_mapOf cX2_mapOf 2 (some (.object "OrderedVersions$Table")), .fieldLink RX2 16 "OrderedVersions" "versions" "[LOrderedVersions$Table;", .methodLink RX2 162 yX2_isTaken, .static yX2_isTaken, .code yX2_isTaken cX2_isTaken 2 (some .boolean), .methodLink RX2 101 yX2_countTaken, .static yX2_countTaken, .code yX2_countTaken cX2_countTaken 4 (some .int)] ++ wsX10 ++ wsX20 ++ (vx_at0 RX2 168 "java/lang/IndexOutOfBoundsException" ["java/lang/RuntimeException", "java/lang/Exception"]).filter goodWord)
def wsX2_restore_r1 : List Cond := [Cond.fieldLink RX2 10 "OrderedVersions" "present" "LOrderedVersions$Table;", Cond.fieldLink RX2 46 "OrderedVersions$Table" "count" "I", Cond.methodLink RX2 98 yX2_snapshotOf, Cond.instanceMethod yX2_snapshotOf, Cond.selects RX2 yX2_snapshotOf yX2_snapshotOf, Cond.initialized RX2, Cond.code yX2_snapshotOf cX2_snapshotOf 2 (some (.object "OrderedVersions$Table")), Cond.classLink RX2 166 "java/lang/IndexOutOfBoundsException", Cond.initialized "java/lang/IndexOutOfBoundsException", Cond.methodLink RX2 78 yX2_mapOf, Cond.instanceMethod yX2_mapOf, Cond.selects RX2 yX2_mapOf yX2_mapOf, Cond.code yX2_mapOf cX2_mapOf 2 (some (.object "OrderedVersions$Table")), Cond.fieldLink RX2 20 "OrderedVersions" "versionTaken" "[Z", Cond.fieldLink RX2 16 "OrderedVersions" "versions" "[LOrderedVersions$Table;", Cond.methodLink RX2 162 yX2_isTaken, Cond.static yX2_isTaken, Cond.code yX2_isTaken cX2_isTaken 2 (some .boolean), Cond.methodLink RX2 94 yX1_copyFrom, Cond.instanceMethod yX1_copyFrom, Cond.selects RX1 yX1_copyFrom yX1_copyFrom, Cond.initialized RX1, Cond.code yX1_copyFrom cX1_copyFrom 2 none, Cond.fieldLink RX1 9 "OrderedVersions$Table" "keys" "[I"]
def wsX2_restore_r2 : List Cond := [Cond.fieldLink RX1 18 "OrderedVersions$Table" "count" "I", Cond.methodLink RX1 37 arraycopyName, Cond.native arraycopyName, Cond.static arraycopyName, Cond.initialized "java/lang/System", Cond.fieldLink RX1 15 "OrderedVersions$Table" "values" "[I"]
def wsX2_restore : List Cond := .code yX2_restore cX2_restore 2 (some .int) :: ((wsX2_restore_r1 ++ wsX2_restore_r2) ++ wsX20 ++ wsX10 ++ (vx_at0 RX2 168 "java/lang/IndexOutOfBoundsException" ["java/lang/RuntimeException", "java/lang/Exception"]).filter goodWord)
def wsX2_size : List Cond := .code yX2_size cX2_size 2 (some .int) :: ([.fieldLink RX2 46 "OrderedVersions$Table" "count" "I", .methodLink RX2 78 yX2_mapOf, .instanceMethod yX2_mapOf, .selects RX2 yX2_mapOf yX2_mapOf, .initialized RX2, .code yX2_mapOf cX2_mapOf 2 (some (.object "OrderedVersions$Table")), .classLink RX2 166 "java/lang/IndexOutOfBoundsException", .initialized "java/lang/IndexOutOfBoundsException", .fieldLink RX2 20 "OrderedVersions" "versionTaken" "[Z", .fieldLink RX2 16 "OrderedVersions" "versions" "[LOrderedVersions$Table;", .methodLink RX2 162 yX2_isTaken, .static yX2_isTaken, .code yX2_isTaken cX2_isTaken 2 (some .boolean)] ++ wsX10 ++ wsX20 ++ (vx_at0 RX2 168 "java/lang/IndexOutOfBoundsException" ["java/lang/RuntimeException", "java/lang/Exception"]).filter goodWord)
def wsX2_get_r1 : List Cond := [Cond.classLink RX2 57 "java/util/NoSuchElementException", Cond.initialized "java/util/NoSuchElementException", Cond.fieldLink RX2 42 "OrderedVersions$Table" "values" "[I", Cond.methodLink RX2 78 yX2_mapOf, Cond.instanceMethod yX2_mapOf, Cond.selects RX2 yX2_mapOf yX2_mapOf, Cond.initialized RX2, Cond.code yX2_mapOf cX2_mapOf 2 (some (.object "OrderedVersions$Table")), Cond.classLink RX2 166 "java/lang/IndexOutOfBoundsException", Cond.initialized "java/lang/IndexOutOfBoundsException", Cond.fieldLink RX2 20 "OrderedVersions" "versionTaken" "[Z", Cond.fieldLink RX2 16 "OrderedVersions" "versions" "[LOrderedVersions$Table;", Cond.methodLink RX2 162 yX2_isTaken, Cond.static yX2_isTaken, Cond.code yX2_isTaken cX2_isTaken 2 (some .boolean), Cond.methodLink RX2 34 yX1_countBelow, Cond.instanceMethod yX1_countBelow, Cond.selects RX1 yX1_countBelow yX1_countBelow, Cond.initialized RX1, Cond.code yX1_countBelow cX1_countBelow 3 (some .int), Cond.fieldLink RX1 18 "OrderedVersions$Table" "count" "I", Cond.fieldLink RX1 9 "OrderedVersions$Table" "keys" "[I", Cond.methodLink RX2 38 yX1_hasAt, Cond.instanceMethod yX1_hasAt]
def wsX2_get_r2 : List Cond := [Cond.selects RX1 yX1_hasAt yX1_hasAt, Cond.code yX1_hasAt cX1_hasAt 3 (some .boolean), Cond.methodLink RX1 22 yX1_isWithin, Cond.instanceMethod yX1_isWithin, Cond.selects RX1 yX1_isWithin yX1_isWithin, Cond.code yX1_isWithin cX1_isWithin 2 (some .boolean)]
def wsX2_get : List Cond := .code yX2_get cX2_get 5 (some .int) :: ((wsX2_get_r1 ++ wsX2_get_r2) ++ wsX10 ++ wsX20 ++ (vx_at0 RX2 59 "java/util/NoSuchElementException" ["java/lang/RuntimeException", "java/lang/Exception"]).filter goodWord ++ (vx_at0 RX2 168 "java/lang/IndexOutOfBoundsException" ["java/lang/RuntimeException", "java/lang/Exception"]).filter goodWord)
def wsX2_rank : List Cond := .code yX2_rank cX2_rank 3 (some .int) :: ([.methodLink RX2 78 yX2_mapOf, .instanceMethod yX2_mapOf, .selects RX2 yX2_mapOf yX2_mapOf, .initialized RX2, .code yX2_mapOf cX2_mapOf 2 (some (.object "OrderedVersions$Table")), .classLink RX2 166 "java/lang/IndexOutOfBoundsException", .initialized "java/lang/IndexOutOfBoundsException", .fieldLink RX2 20 "OrderedVersions" "versionTaken" "[Z", .fieldLink RX2 16 "OrderedVersions" "versions" "[LOrderedVersions$Table;", .methodLink RX2 162 yX2_isTaken, .static yX2_isTaken, .code yX2_isTaken cX2_isTaken 2 (some .boolean), .methodLink RX2 34 yX1_countBelow, .instanceMethod yX1_countBelow, .selects RX1 yX1_countBelow yX1_countBelow, .initialized RX1, .code yX1_countBelow cX1_countBelow 3 (some .int), .fieldLink RX1 18 "OrderedVersions$Table" "count" "I", .fieldLink RX1 9 "OrderedVersions$Table" "keys" "[I"] ++ wsX20 ++ wsX10 ++ (vx_at0 RX2 168 "java/lang/IndexOutOfBoundsException" ["java/lang/RuntimeException", "java/lang/Exception"]).filter goodWord)
def wsX2_keyAt : List Cond := .code yX2_keyAt cX2_keyAt 2 (some .int) :: ([.classLink RX2 57 "java/util/NoSuchElementException", .initialized "java/util/NoSuchElementException", .fieldLink RX2 122 "OrderedVersions$Table" "keys" "[I", .methodLink RX2 150 yX1_isWithin, .instanceMethod yX1_isWithin, .selects RX1 yX1_isWithin yX1_isWithin, .initialized RX1, .code yX1_isWithin cX1_isWithin 2 (some .boolean), .fieldLink RX1 18 "OrderedVersions$Table" "count" "I"] ++ wsX10 ++ (vx_at0 RX2 59 "java/util/NoSuchElementException" ["java/lang/RuntimeException", "java/lang/Exception"]).filter goodWord)
def wsX2_select : List Cond := .code yX2_select cX2_select 3 (some .int) :: ([.methodLink RX2 78 yX2_mapOf, .instanceMethod yX2_mapOf, .selects RX2 yX2_mapOf yX2_mapOf, .initialized RX2, .code yX2_mapOf cX2_mapOf 2 (some (.object "OrderedVersions$Table")), .classLink RX2 166 "java/lang/IndexOutOfBoundsException", .initialized "java/lang/IndexOutOfBoundsException", .fieldLink RX2 20 "OrderedVersions" "versionTaken" "[Z", .fieldLink RX2 16 "OrderedVersions" "versions" "[LOrderedVersions$Table;", .methodLink RX2 162 yX2_isTaken, .static yX2_isTaken, .code yX2_isTaken cX2_isTaken 2 (some .boolean), .methodLink RX2 104 yX2_keyAt, .static yX2_keyAt, .code yX2_keyAt cX2_keyAt 2 (some .int), .classLink RX2 57 "java/util/NoSuchElementException", .initialized "java/util/NoSuchElementException", .fieldLink RX2 122 "OrderedVersions$Table" "keys" "[I", .methodLink RX2 150 yX1_isWithin, .instanceMethod yX1_isWithin, .selects RX1 yX1_isWithin yX1_isWithin, .initialized RX1, .code yX1_isWithin cX1_isWithin 2 (some .boolean), .fieldLink RX1 18 "OrderedVersions$Table" "count" "I"] ++ wsX20 ++ wsX10 ++ (vx_at0 RX2 168 "java/lang/IndexOutOfBoundsException" ["java/lang/RuntimeException", "java/lang/Exception"]).filter goodWord ++ (vx_at0 RX2 59 "java/util/NoSuchElementException" ["java/lang/RuntimeException", "java/lang/Exception"]).filter goodWord)
def wsX2_near_r1 : List Cond := [Cond.methodLink RX2 78 yX2_mapOf, Cond.instanceMethod yX2_mapOf, Cond.selects RX2 yX2_mapOf yX2_mapOf, Cond.initialized RX2, Cond.code yX2_mapOf cX2_mapOf 2 (some (.object "OrderedVersions$Table")), Cond.classLink RX2 166 "java/lang/IndexOutOfBoundsException", Cond.initialized "java/lang/IndexOutOfBoundsException", Cond.fieldLink RX2 20 "OrderedVersions" "versionTaken" "[Z", Cond.fieldLink RX2 16 "OrderedVersions" "versions" "[LOrderedVersions$Table;", Cond.methodLink RX2 162 yX2_isTaken, Cond.static yX2_isTaken, Cond.code yX2_isTaken cX2_isTaken 2 (some .boolean), Cond.methodLink RX2 108 yX1_nearest, Cond.instanceMethod yX1_nearest, Cond.selects RX1 yX1_nearest yX1_nearest, Cond.initialized RX1, Cond.code yX1_nearest cX1_nearest 3 (some .int), Cond.methodLink RX1 26 yX1_countBelow, Cond.instanceMethod yX1_countBelow, Cond.selects RX1 yX1_countBelow yX1_countBelow, Cond.code yX1_countBelow cX1_countBelow 3 (some .int), Cond.fieldLink RX1 18 "OrderedVersions$Table" "count" "I", Cond.fieldLink RX1 9 "OrderedVersions$Table" "keys" "[I", Cond.methodLink RX1 34 yX1_countNotAbove]
def wsX2_near_r2 : List Cond := [Cond.instanceMethod yX1_countNotAbove, Cond.selects RX1 yX1_countNotAbove yX1_countNotAbove, Cond.code yX1_countNotAbove cX1_countNotAbove 3 (some .int), Cond.methodLink RX1 30 yX1_hasAt, Cond.instanceMethod yX1_hasAt, Cond.selects RX1 yX1_hasAt yX1_hasAt, Cond.code yX1_hasAt cX1_hasAt 3 (some .boolean), Cond.methodLink RX1 22 yX1_isWithin, Cond.instanceMethod yX1_isWithin, Cond.selects RX1 yX1_isWithin yX1_isWithin, Cond.code yX1_isWithin cX1_isWithin 2 (some .boolean), Cond.methodLink RX2 104 yX2_keyAt, Cond.static yX2_keyAt, Cond.code yX2_keyAt cX2_keyAt 2 (some .int), Cond.classLink RX2 57 "java/util/NoSuchElementException", Cond.initialized "java/util/NoSuchElementException", Cond.fieldLink RX2 122 "OrderedVersions$Table" "keys" "[I", Cond.methodLink RX2 150 yX1_isWithin]
def wsX2_near : List Cond := .code yX2_near cX2_near 5 (some .int) :: ((wsX2_near_r1 ++ wsX2_near_r2) ++ wsX20 ++ wsX10 ++ (vx_at0 RX2 168 "java/lang/IndexOutOfBoundsException" ["java/lang/RuntimeException", "java/lang/Exception"]).filter goodWord ++ (vx_at0 RX2 59 "java/util/NoSuchElementException" ["java/lang/RuntimeException", "java/lang/Exception"]).filter goodWord)
def wsX2_sum_r1 : List Cond := [Cond.fieldLink RX2 42 "OrderedVersions$Table" "values" "[I", Cond.methodLink RX2 78 yX2_mapOf, Cond.instanceMethod yX2_mapOf, Cond.selects RX2 yX2_mapOf yX2_mapOf, Cond.initialized RX2, Cond.code yX2_mapOf cX2_mapOf 2 (some (.object "OrderedVersions$Table")), Cond.classLink RX2 166 "java/lang/IndexOutOfBoundsException", Cond.initialized "java/lang/IndexOutOfBoundsException", Cond.fieldLink RX2 20 "OrderedVersions" "versionTaken" "[Z", Cond.fieldLink RX2 16 "OrderedVersions" "versions" "[LOrderedVersions$Table;", Cond.methodLink RX2 162 yX2_isTaken, Cond.static yX2_isTaken, Cond.code yX2_isTaken cX2_isTaken 2 (some .boolean), Cond.methodLink RX2 75 yX1_countNotAbove, Cond.instanceMethod yX1_countNotAbove, Cond.selects RX1 yX1_countNotAbove yX1_countNotAbove, Cond.initialized RX1, Cond.code yX1_countNotAbove cX1_countNotAbove 3 (some .int), Cond.methodLink RX1 26 yX1_countBelow, Cond.instanceMethod yX1_countBelow, Cond.selects RX1 yX1_countBelow yX1_countBelow, Cond.code yX1_countBelow cX1_countBelow 3 (some .int), Cond.fieldLink RX1 18 "OrderedVersions$Table" "count" "I", Cond.fieldLink RX1 9 "OrderedVersions$Table" "keys" "[I"]
def wsX2_sum_r2 : List Cond := [Cond.methodLink RX1 30 yX1_hasAt, Cond.instanceMethod yX1_hasAt, Cond.selects RX1 yX1_hasAt yX1_hasAt, Cond.code yX1_hasAt cX1_hasAt 3 (some .boolean), Cond.methodLink RX1 22 yX1_isWithin, Cond.instanceMethod yX1_isWithin, Cond.selects RX1 yX1_isWithin yX1_isWithin, Cond.code yX1_isWithin cX1_isWithin 2 (some .boolean), Cond.methodLink RX2 34 yX1_countBelow]
def wsX2_sum : List Cond := .code yX2_sum cX2_sum 9 (some .long) :: ((wsX2_sum_r1 ++ wsX2_sum_r2) ++ wsX10 ++ wsX20 ++ (vx_at0 RX2 168 "java/lang/IndexOutOfBoundsException" ["java/lang/RuntimeException", "java/lang/Exception"]).filter goodWord)
def wsX2_greatest_r1 : List Cond := [Cond.classLink RX2 57 "java/util/NoSuchElementException", Cond.initialized "java/util/NoSuchElementException", Cond.fieldLink RX2 42 "OrderedVersions$Table" "values" "[I", Cond.methodLink RX2 112 Lib.Math.max.name, Cond.static Lib.Math.max.name, Cond.initialized "java/lang/Math", Cond.code Lib.Math.max.name Lib.Math.max.code 2 (some .int), Cond.methodLink RX2 78 yX2_mapOf, Cond.instanceMethod yX2_mapOf, Cond.selects RX2 yX2_mapOf yX2_mapOf, Cond.initialized RX2, Cond.code yX2_mapOf cX2_mapOf 2 (some (.object "OrderedVersions$Table")), Cond.classLink RX2 166 "java/lang/IndexOutOfBoundsException", Cond.initialized "java/lang/IndexOutOfBoundsException", Cond.fieldLink RX2 20 "OrderedVersions" "versionTaken" "[Z", Cond.fieldLink RX2 16 "OrderedVersions" "versions" "[LOrderedVersions$Table;", Cond.methodLink RX2 162 yX2_isTaken, Cond.static yX2_isTaken, Cond.code yX2_isTaken cX2_isTaken 2 (some .boolean), Cond.methodLink RX2 34 yX1_countBelow, Cond.instanceMethod yX1_countBelow, Cond.selects RX1 yX1_countBelow yX1_countBelow, Cond.initialized RX1, Cond.code yX1_countBelow cX1_countBelow 3 (some .int)]
def wsX2_greatest_r2 : List Cond := [Cond.fieldLink RX1 18 "OrderedVersions$Table" "count" "I", Cond.fieldLink RX1 9 "OrderedVersions$Table" "keys" "[I", Cond.methodLink RX2 75 yX1_countNotAbove, Cond.instanceMethod yX1_countNotAbove, Cond.selects RX1 yX1_countNotAbove yX1_countNotAbove, Cond.code yX1_countNotAbove cX1_countNotAbove 3 (some .int), Cond.methodLink RX1 26 yX1_countBelow, Cond.methodLink RX1 30 yX1_hasAt, Cond.instanceMethod yX1_hasAt, Cond.selects RX1 yX1_hasAt yX1_hasAt, Cond.code yX1_hasAt cX1_hasAt 3 (some .boolean), Cond.methodLink RX1 22 yX1_isWithin, Cond.instanceMethod yX1_isWithin, Cond.selects RX1 yX1_isWithin yX1_isWithin, Cond.code yX1_isWithin cX1_isWithin 2 (some .boolean)]
def wsX2_greatest : List Cond := .code yX2_greatest cX2_greatest 9 (some .int) :: ((wsX2_greatest_r1 ++ wsX2_greatest_r2) ++ wsX10 ++ wsX20 ++ (vx_at0 RX2 59 "java/util/NoSuchElementException" ["java/lang/RuntimeException", "java/lang/Exception"]).filter goodWord ++ (vx_at0 RX2 168 "java/lang/IndexOutOfBoundsException" ["java/lang/RuntimeException", "java/lang/Exception"]).filter goodWord)
def wsX2_differs_r1 : List Cond := [Cond.fieldLink RX2 46 "OrderedVersions$Table" "count" "I", Cond.methodLink RX2 78 yX2_mapOf, Cond.instanceMethod yX2_mapOf, Cond.selects RX2 yX2_mapOf yX2_mapOf, Cond.initialized RX2, Cond.code yX2_mapOf cX2_mapOf 2 (some (.object "OrderedVersions$Table")), Cond.classLink RX2 166 "java/lang/IndexOutOfBoundsException", Cond.initialized "java/lang/IndexOutOfBoundsException", Cond.fieldLink RX2 20 "OrderedVersions" "versionTaken" "[Z", Cond.fieldLink RX2 16 "OrderedVersions" "versions" "[LOrderedVersions$Table;", Cond.methodLink RX2 162 yX2_isTaken, Cond.static yX2_isTaken, Cond.code yX2_isTaken cX2_isTaken 2 (some .boolean), Cond.methodLink RX2 82 yX1_countShared, Cond.instanceMethod yX1_countShared, Cond.selects RX1 yX1_countShared yX1_countShared, Cond.initialized RX1, Cond.code yX1_countShared cX1_countShared 6 (some .int), Cond.fieldLink RX1 18 "OrderedVersions$Table" "count" "I", Cond.fieldLink RX1 9 "OrderedVersions$Table" "keys" "[I", Cond.fieldLink RX1 15 "OrderedVersions$Table" "values" "[I", Cond.methodLink RX1 30 yX1_hasAt, Cond.instanceMethod yX1_hasAt, Cond.selects RX1 yX1_hasAt yX1_hasAt]
def wsX2_differs_r2 : List Cond := [Cond.code yX1_hasAt cX1_hasAt 3 (some .boolean), Cond.methodLink RX1 22 yX1_isWithin, Cond.instanceMethod yX1_isWithin, Cond.selects RX1 yX1_isWithin yX1_isWithin, Cond.code yX1_isWithin cX1_isWithin 2 (some .boolean)]
def wsX2_differs : List Cond := .code yX2_differs cX2_differs 5 (some .int) :: ((wsX2_differs_r1 ++ wsX2_differs_r2) ++ wsX10 ++ wsX20 ++ (vx_at0 RX2 168 "java/lang/IndexOutOfBoundsException" ["java/lang/RuntimeException", "java/lang/Exception"]).filter goodWord)
def wsX2_firstDifference_r1 : List Cond := [Cond.fieldLink RX2 46 "OrderedVersions$Table" "count" "I", Cond.fieldLink RX2 122 "OrderedVersions$Table" "keys" "[I", Cond.methodLink RX2 125 Lib.Math.min.name, Cond.static Lib.Math.min.name, Cond.initialized "java/lang/Math", Cond.code Lib.Math.min.name Lib.Math.min.code 2 (some .int), Cond.methodLink RX2 78 yX2_mapOf, Cond.instanceMethod yX2_mapOf, Cond.selects RX2 yX2_mapOf yX2_mapOf, Cond.initialized RX2, Cond.code yX2_mapOf cX2_mapOf 2 (some (.object "OrderedVersions$Table")), Cond.classLink RX2 166 "java/lang/IndexOutOfBoundsException", Cond.initialized "java/lang/IndexOutOfBoundsException", Cond.fieldLink RX2 20 "OrderedVersions" "versionTaken" "[Z", Cond.fieldLink RX2 16 "OrderedVersions" "versions" "[LOrderedVersions$Table;", Cond.methodLink RX2 162 yX2_isTaken, Cond.static yX2_isTaken, Cond.code yX2_isTaken cX2_isTaken 2 (some .boolean), Cond.methodLink RX2 118 yX1_countAlikeAtStart, Cond.instanceMethod yX1_countAlikeAtStart, Cond.selects RX1 yX1_countAlikeAtStart yX1_countAlikeAtStart, Cond.initialized RX1, Cond.code yX1_countAlikeAtStart cX1_countAlikeAtStart 4 (some .int), Cond.fieldLink RX1 18 "OrderedVersions$Table" "count" "I"]
def wsX2_firstDifference_r2 : List Cond := [Cond.methodLink RX1 43 Lib.Math.min.name, Cond.fieldLink RX1 9 "OrderedVersions$Table" "keys" "[I", Cond.fieldLink RX1 15 "OrderedVersions$Table" "values" "[I", Cond.methodLink RX2 104 yX2_keyAt, Cond.static yX2_keyAt, Cond.code yX2_keyAt cX2_keyAt 2 (some .int), Cond.classLink RX2 57 "java/util/NoSuchElementException", Cond.initialized "java/util/NoSuchElementException", Cond.methodLink RX2 150 yX1_isWithin, Cond.instanceMethod yX1_isWithin, Cond.selects RX1 yX1_isWithin yX1_isWithin, Cond.code yX1_isWithin cX1_isWithin 2 (some .boolean)]
def wsX2_firstDifference : List Cond := .code yX2_firstDifference cX2_firstDifference 6 (some .int) :: ((wsX2_firstDifference_r1 ++ wsX2_firstDifference_r2) ++ wsX10 ++ wsX20 ++ (vx_at0 RX2 168 "java/lang/IndexOutOfBoundsException" ["java/lang/RuntimeException", "java/lang/Exception"]).filter goodWord ++ (vx_at0 RX2 59 "java/util/NoSuchElementException" ["java/lang/RuntimeException", "java/lang/Exception"]).filter goodWord)
def wsX2_open_r1 : List Cond := [Cond.classLink RX2 50 "java/lang/UnsupportedOperationException", Cond.initialized "java/lang/UnsupportedOperationException", Cond.fieldLink RX2 30 "OrderedVersions" "cursorTaken" "[Z", Cond.fieldLink RX2 26 "OrderedVersions" "cursors" "[LOrderedVersions$Cursor;", Cond.methodLink RX2 78 yX2_mapOf, Cond.instanceMethod yX2_mapOf, Cond.selects RX2 yX2_mapOf yX2_mapOf, Cond.initialized RX2, Cond.code yX2_mapOf cX2_mapOf 2 (some (.object "OrderedVersions$Table")), Cond.classLink RX2 166 "java/lang/IndexOutOfBoundsException", Cond.initialized "java/lang/IndexOutOfBoundsException", Cond.fieldLink RX2 20 "OrderedVersions" "versionTaken" "[Z", Cond.fieldLink RX2 16 "OrderedVersions" "versions" "[LOrderedVersions$Table;", Cond.methodLink RX2 162 yX2_isTaken, Cond.static yX2_isTaken, Cond.code yX2_isTaken cX2_isTaken 2 (some .boolean), Cond.methodLink RX2 90 yX2_leastFree, Cond.static yX2_leastFree, Cond.code yX2_leastFree cX2_leastFree 3 (some .int), Cond.methodLink RX2 128 yX0_start, Cond.instanceMethod yX0_start, Cond.selects RX0 yX0_start yX0_start, Cond.initialized RX0, Cond.code yX0_start cX0_start 4 none]
def wsX2_open_r2 : List Cond := [Cond.fieldLink RX0 10 "OrderedVersions$Cursor" "map" "LOrderedVersions$Table;", Cond.fieldLink RX0 20 "OrderedVersions$Cursor" "down" "Z", Cond.fieldLink RX0 28 "OrderedVersions$Cursor" "at" "I", Cond.methodLink RX0 16 yX1_copyFrom, Cond.instanceMethod yX1_copyFrom, Cond.selects RX1 yX1_copyFrom yX1_copyFrom, Cond.initialized RX1, Cond.code yX1_copyFrom cX1_copyFrom 2 none, Cond.fieldLink RX1 9 "OrderedVersions$Table" "keys" "[I", Cond.fieldLink RX1 18 "OrderedVersions$Table" "count" "I", Cond.methodLink RX1 37 arraycopyName, Cond.native arraycopyName, Cond.static arraycopyName, Cond.initialized "java/lang/System", Cond.fieldLink RX1 15 "OrderedVersions$Table" "values" "[I", Cond.methodLink RX0 24 yX1_nearest, Cond.instanceMethod yX1_nearest, Cond.selects RX1 yX1_nearest yX1_nearest, Cond.code yX1_nearest cX1_nearest 3 (some .int), Cond.methodLink RX1 26 yX1_countBelow, Cond.instanceMethod yX1_countBelow, Cond.selects RX1 yX1_countBelow yX1_countBelow, Cond.code yX1_countBelow cX1_countBelow 3 (some .int), Cond.methodLink RX1 34 yX1_countNotAbove]
def wsX2_open_r3 : List Cond := [Cond.instanceMethod yX1_countNotAbove, Cond.selects RX1 yX1_countNotAbove yX1_countNotAbove, Cond.code yX1_countNotAbove cX1_countNotAbove 3 (some .int), Cond.methodLink RX1 30 yX1_hasAt, Cond.instanceMethod yX1_hasAt, Cond.selects RX1 yX1_hasAt yX1_hasAt, Cond.code yX1_hasAt cX1_hasAt 3 (some .boolean), Cond.methodLink RX1 22 yX1_isWithin, Cond.instanceMethod yX1_isWithin, Cond.selects RX1 yX1_isWithin yX1_isWithin, Cond.code yX1_isWithin cX1_isWithin 2 (some .boolean)]
def wsX2_open : List Cond := .code yX2_open cX2_open 6 (some .int) :: ((wsX2_open_r1 ++ (wsX2_open_r2 ++ wsX2_open_r3)) ++ wsX20 ++ wsX00 ++ wsX10 ++ (vx_at0 RX2 52 "java/lang/UnsupportedOperationException" ["java/lang/RuntimeException", "java/lang/Exception"]).filter goodWord ++ (vx_at0 RX2 168 "java/lang/IndexOutOfBoundsException" ["java/lang/RuntimeException", "java/lang/Exception"]).filter goodWord)
def wsX2_cursorOf : List Cond := .code yX2_cursorOf cX2_cursorOf 2 (some (.object "OrderedVersions$Cursor")) :: ([.classLink RX2 166 "java/lang/IndexOutOfBoundsException", .initialized "java/lang/IndexOutOfBoundsException", .fieldLink RX2 30 "OrderedVersions" "cursorTaken" "[Z", .fieldLink RX2 26 "OrderedVersions" "cursors" "[LOrderedVersions$Cursor;", .methodLink RX2 162 yX2_isTaken, .static yX2_isTaken, .initialized RX2, .code yX2_isTaken cX2_isTaken 2 (some .boolean)] ++ wsX20 ++ (vx_at0 RX2 168 "java/lang/IndexOutOfBoundsException" ["java/lang/RuntimeException", "java/lang/Exception"]).filter goodWord)
def wsX2_next_r1 : List Cond := [Cond.fieldLink RX2 136 "OrderedVersions$Cursor" "map" "LOrderedVersions$Table;", Cond.fieldLink RX2 139 "OrderedVersions$Cursor" "at" "I", Cond.methodLink RX2 132 yX2_cursorOf, Cond.instanceMethod yX2_cursorOf, Cond.selects RX2 yX2_cursorOf yX2_cursorOf, Cond.initialized RX2, Cond.code yX2_cursorOf cX2_cursorOf 2 (some (.object "OrderedVersions$Cursor")), Cond.classLink RX2 166 "java/lang/IndexOutOfBoundsException", Cond.initialized "java/lang/IndexOutOfBoundsException", Cond.fieldLink RX2 30 "OrderedVersions" "cursorTaken" "[Z", Cond.fieldLink RX2 26 "OrderedVersions" "cursors" "[LOrderedVersions$Cursor;", Cond.methodLink RX2 162 yX2_isTaken, Cond.static yX2_isTaken, Cond.code yX2_isTaken cX2_isTaken 2 (some .boolean), Cond.methodLink RX2 104 yX2_keyAt, Cond.static yX2_keyAt, Cond.code yX2_keyAt cX2_keyAt 2 (some .int), Cond.classLink RX2 57 "java/util/NoSuchElementException", Cond.initialized "java/util/NoSuchElementException", Cond.fieldLink RX2 122 "OrderedVersions$Table" "keys" "[I", Cond.methodLink RX2 150 yX1_isWithin, Cond.instanceMethod yX1_isWithin, Cond.selects RX1 yX1_isWithin yX1_isWithin, Cond.initialized RX1]
def wsX2_next_r2 : List Cond := [Cond.code yX1_isWithin cX1_isWithin 2 (some .boolean), Cond.fieldLink RX1 18 "OrderedVersions$Table" "count" "I", Cond.methodLink RX2 142 yX0_goOver, Cond.instanceMethod yX0_goOver, Cond.selects RX0 yX0_goOver yX0_goOver, Cond.initialized RX0, Cond.code yX0_goOver cX0_goOver 2 none, Cond.fieldLink RX0 28 "OrderedVersions$Cursor" "at" "I", Cond.fieldLink RX0 20 "OrderedVersions$Cursor" "down" "Z"]
def wsX2_next : List Cond := .code yX2_next cX2_next 4 (some .int) :: ((wsX2_next_r1 ++ wsX2_next_r2) ++ wsX00 ++ wsX20 ++ wsX10 ++ (vx_at0 RX2 168 "java/lang/IndexOutOfBoundsException" ["java/lang/RuntimeException", "java/lang/Exception"]).filter goodWord ++ (vx_at0 RX2 59 "java/util/NoSuchElementException" ["java/lang/RuntimeException", "java/lang/Exception"]).filter goodWord)
def wsX2_skip_r1 : List Cond := [Cond.classLink RX2 64 "java/lang/IllegalArgumentException", Cond.initialized "java/lang/IllegalArgumentException", Cond.methodLink RX2 125 Lib.Math.min.name, Cond.static Lib.Math.min.name, Cond.initialized "java/lang/Math", Cond.code Lib.Math.min.name Lib.Math.min.code 2 (some .int), Cond.methodLink RX2 132 yX2_cursorOf, Cond.instanceMethod yX2_cursorOf, Cond.selects RX2 yX2_cursorOf yX2_cursorOf, Cond.initialized RX2, Cond.code yX2_cursorOf cX2_cursorOf 2 (some (.object "OrderedVersions$Cursor")), Cond.classLink RX2 166 "java/lang/IndexOutOfBoundsException", Cond.initialized "java/lang/IndexOutOfBoundsException", Cond.fieldLink RX2 30 "OrderedVersions" "cursorTaken" "[Z", Cond.fieldLink RX2 26 "OrderedVersions" "cursors" "[LOrderedVersions$Cursor;", Cond.methodLink RX2 162 yX2_isTaken, Cond.static yX2_isTaken, Cond.code yX2_isTaken cX2_isTaken 2 (some .boolean), Cond.methodLink RX2 146 yX0_countLeft, Cond.instanceMethod yX0_countLeft, Cond.selects RX0 yX0_countLeft yX0_countLeft, Cond.initialized RX0, Cond.code yX0_countLeft cX0_countLeft 1 (some .int), Cond.fieldLink RX0 20 "OrderedVersions$Cursor" "down" "Z"]
def wsX2_skip_r2 : List Cond := [Cond.fieldLink RX0 28 "OrderedVersions$Cursor" "at" "I", Cond.fieldLink RX0 10 "OrderedVersions$Cursor" "map" "LOrderedVersions$Table;", Cond.fieldLink RX0 32 "OrderedVersions$Table" "count" "I", Cond.methodLink RX2 142 yX0_goOver, Cond.instanceMethod yX0_goOver, Cond.selects RX0 yX0_goOver yX0_goOver, Cond.code yX0_goOver cX0_goOver 2 none]
def wsX2_skip : List Cond := .code yX2_skip cX2_skip 5 (some .int) :: ((wsX2_skip_r1 ++ wsX2_skip_r2) ++ wsX20 ++ wsX00 ++ wsX10 ++ (vx_at0 RX2 66 "java/lang/IllegalArgumentException" ["java/lang/RuntimeException", "java/lang/Exception"]).filter goodWord ++ (vx_at0 RX2 168 "java/lang/IndexOutOfBoundsException" ["java/lang/RuntimeException", "java/lang/Exception"]).filter goodWord)
def wsX2_peek : List Cond := .code yX2_peek cX2_peek 3 (some .int) :: ([.classLink RX2 57 "java/util/NoSuchElementException", .initialized "java/util/NoSuchElementException", .fieldLink RX2 136 "OrderedVersions$Cursor" "map" "LOrderedVersions$Table;", .fieldLink RX2 139 "OrderedVersions$Cursor" "at" "I", .fieldLink RX2 42 "OrderedVersions$Table" "values" "[I", .methodLink RX2 132 yX2_cursorOf, .instanceMethod yX2_cursorOf, .selects RX2 yX2_cursorOf yX2_cursorOf, .initialized RX2, .code yX2_cursorOf cX2_cursorOf 2 (some (.object "OrderedVersions$Cursor")), .classLink RX2 166 "java/lang/IndexOutOfBoundsException", .initialized "java/lang/IndexOutOfBoundsException", .fieldLink RX2 30 "OrderedVersions" "cursorTaken" "[Z", .fieldLink RX2 26 "OrderedVersions" "cursors" "[LOrderedVersions$Cursor;", .methodLink RX2 162 yX2_isTaken, .static yX2_isTaken, .code yX2_isTaken cX2_isTaken 2 (some .boolean), .methodLink RX2 150 yX1_isWithin, .instanceMethod yX1_isWithin, .selects RX1 yX1_isWithin yX1_isWithin, .initialized RX1, .code yX1_isWithin cX1_isWithin 2 (some .boolean), .fieldLink RX1 18 "OrderedVersions$Table" "count" "I"] ++ wsX00 ++ wsX10 ++ wsX20 ++ (vx_at0 RX2 59 "java/util/NoSuchElementException" ["java/lang/RuntimeException", "java/lang/Exception"]).filter goodWord ++ (vx_at0 RX2 168 "java/lang/IndexOutOfBoundsException" ["java/lang/RuntimeException", "java/lang/Exception"]).filter goodWord)
def wsX2_close : List Cond := .code yX2_close cX2_close 2 (some .int) :: ([.fieldLink RX2 30 "OrderedVersions" "cursorTaken" "[Z", .methodLink RX2 132 yX2_cursorOf, .instanceMethod yX2_cursorOf, .selects RX2 yX2_cursorOf yX2_cursorOf, .initialized RX2, .code yX2_cursorOf cX2_cursorOf 2 (some (.object "OrderedVersions$Cursor")), .classLink RX2 166 "java/lang/IndexOutOfBoundsException", .initialized "java/lang/IndexOutOfBoundsException", .fieldLink RX2 26 "OrderedVersions" "cursors" "[LOrderedVersions$Cursor;", .methodLink RX2 162 yX2_isTaken, .static yX2_isTaken, .code yX2_isTaken cX2_isTaken 2 (some .boolean), .methodLink RX2 154 yX0_stop, .instanceMethod yX0_stop, .selects RX0 yX0_stop yX0_stop, .initialized RX0, .code yX0_stop cX0_stop 1 none, .fieldLink RX0 10 "OrderedVersions$Cursor" "map" "LOrderedVersions$Table;", .fieldLink RX0 32 "OrderedVersions$Table" "count" "I", .fieldLink RX0 28 "OrderedVersions$Cursor" "at" "I", .methodLink RX2 101 yX2_countTaken, .static yX2_countTaken, .code yX2_countTaken cX2_countTaken 4 (some .int)] ++ wsX20 ++ wsX00 ++ wsX10 ++ (vx_at0 RX2 168 "java/lang/IndexOutOfBoundsException" ["java/lang/RuntimeException", "java/lang/Exception"]).filter goodWord)
def wsX2_astray : List Cond := .code yX2_astray cX2_astray 3 (some .int) :: ([.fieldLink RX2 20 "OrderedVersions" "versionTaken" "[Z", .fieldLink RX2 16 "OrderedVersions" "versions" "[LOrderedVersions$Table;", .fieldLink RX2 26 "OrderedVersions" "cursors" "[LOrderedVersions$Cursor;", .fieldLink RX2 30 "OrderedVersions" "cursorTaken" "[Z", .methodLink RX2 157 yX1_countWrong, .instanceMethod yX1_countWrong, .selects RX1 yX1_countWrong yX1_countWrong, .initialized RX1, .code yX1_countWrong cX1_countWrong 4 (some .int), .fieldLink RX1 18 "OrderedVersions$Table" "count" "I", .fieldLink RX1 9 "OrderedVersions$Table" "keys" "[I", .methodLink RX2 161 yX0_countWrong, .instanceMethod yX0_countWrong, .selects RX0 yX0_countWrong yX0_countWrong, .initialized RX0, .code yX0_countWrong cX0_countWrong 3 (some .int), .fieldLink RX0 28 "OrderedVersions$Cursor" "at" "I", .fieldLink RX0 10 "OrderedVersions$Cursor" "map" "LOrderedVersions$Table;", .fieldLink RX0 32 "OrderedVersions$Table" "count" "I", .methodLink RX0 35 yX1_countWrong] ++ wsX20 ++ wsX10 ++ wsX00)
def wsX3_init : List Cond := .code yX3_init cX3_init 1 none :: ([.methodLink RX3 1 objectInit, .instanceMethod objectInit, .code objectInit ⟨#[0xb1]⟩ 1 none, .arrayClass .int, .fieldLink RX3 7 "OrderedVersionsModel" "keys" "[I", .fieldLink RX3 13 "OrderedVersionsModel" "values" "[I", .fieldLink RX3 16 "OrderedVersionsModel" "sizes" "[I", .arrayClass .boolean, .fieldLink RX3 19 "OrderedVersionsModel" "there" "[Z", .fieldLink RX3 23 "OrderedVersionsModel" "places" "[I", .fieldLink RX3 26 "OrderedVersionsModel" "downs" "[Z"] ++ wsX30)
def wsX3_thrown : List Cond := .code yX3_thrown cX3_thrown 1 (some .int) :: ([.fieldLink RX3 29 "OrderedVersionsModel" "code" "I"] ++ wsX30)
def wsX3_below : List Cond := .code yX3_below cX3_below 4 (some .int) :: ([.fieldLink RX3 16 "OrderedVersionsModel" "sizes" "[I", .fieldLink RX3 7 "OrderedVersionsModel" "keys" "[I"] ++ wsX30)
def wsX3_has : List Cond := .code yX3_has cX3_has 4 (some .boolean) :: ([.fieldLink RX3 16 "OrderedVersionsModel" "sizes" "[I", .fieldLink RX3 7 "OrderedVersionsModel" "keys" "[I", .methodLink RX3 33 yX3_below, .instanceMethod yX3_below, .selects RX3 yX3_below yX3_below, .initialized RX3, .code yX3_below cX3_below 4 (some .int)] ++ wsX30)
def wsX3_upTo : List Cond := .code yX3_upTo cX3_upTo 3 (some .int) :: ([.methodLink RX3 33 yX3_below, .instanceMethod yX3_below, .selects RX3 yX3_below yX3_below, .initialized RX3, .code yX3_below cX3_below 4 (some .int), .fieldLink RX3 16 "OrderedVersionsModel" "sizes" "[I", .fieldLink RX3 7 "OrderedVersionsModel" "keys" "[I", .methodLink RX3 37 yX3_has, .instanceMethod yX3_has, .selects RX3 yX3_has yX3_has, .code yX3_has cX3_has 4 (some .boolean)] ++ wsX30)
def wsX3_insert : List Cond := .code yX3_insert cX3_insert 5 none :: ([.fieldLink RX3 16 "OrderedVersionsModel" "sizes" "[I", .fieldLink RX3 7 "OrderedVersionsModel" "keys" "[I", .fieldLink RX3 13 "OrderedVersionsModel" "values" "[I", .methodLink RX3 33 yX3_below, .instanceMethod yX3_below, .selects RX3 yX3_below yX3_below, .initialized RX3, .code yX3_below cX3_below 4 (some .int)] ++ wsX30)
def wsX3_takeOut : List Cond := .code yX3_takeOut cX3_takeOut 4 none :: ([.fieldLink RX3 16 "OrderedVersionsModel" "sizes" "[I", .fieldLink RX3 7 "OrderedVersionsModel" "keys" "[I", .fieldLink RX3 13 "OrderedVersionsModel" "values" "[I"] ++ wsX30)
def wsX3_copy : List Cond := .code yX3_copy cX3_copy 4 none :: ([.fieldLink RX3 16 "OrderedVersionsModel" "sizes" "[I", .fieldLink RX3 7 "OrderedVersionsModel" "keys" "[I", .fieldLink RX3 13 "OrderedVersionsModel" "values" "[I"] ++ wsX30)
def wsX3_isVersion : List Cond := .code yX3_isVersion cX3_isVersion 2 (some .boolean) :: ([.fieldLink RX3 19 "OrderedVersionsModel" "there" "[Z"] ++ wsX30)
def wsX3_isSnapshot : List Cond := .code yX3_isSnapshot cX3_isSnapshot 2 (some .boolean) :: ([.methodLink RX3 41 yX3_isVersion, .instanceMethod yX3_isVersion, .selects RX3 yX3_isVersion yX3_isVersion, .initialized RX3, .code yX3_isVersion cX3_isVersion 2 (some .boolean), .fieldLink RX3 19 "OrderedVersionsModel" "there" "[Z"] ++ wsX30)
def wsX3_isCursor : List Cond := .code yX3_isCursor cX3_isCursor 2 (some .boolean) :: ([.fieldLink RX3 19 "OrderedVersionsModel" "there" "[Z"] ++ wsX30)
def wsX3_spare : List Cond := .code yX3_spare cX3_spare 5 (some .int) :: ([.fieldLink RX3 19 "OrderedVersionsModel" "there" "[Z"] ++ wsX30)
def wsX3_put : List Cond := .code yX3_put cX3_put 4 (some .boolean) :: ([.fieldLink RX3 16 "OrderedVersionsModel" "sizes" "[I", .fieldLink RX3 29 "OrderedVersionsModel" "code" "I", .fieldLink RX3 13 "OrderedVersionsModel" "values" "[I", .methodLink RX3 37 yX3_has, .instanceMethod yX3_has, .selects RX3 yX3_has yX3_has, .initialized RX3, .code yX3_has cX3_has 4 (some .boolean), .fieldLink RX3 7 "OrderedVersionsModel" "keys" "[I", .methodLink RX3 33 yX3_below, .instanceMethod yX3_below, .selects RX3 yX3_below yX3_below, .code yX3_below cX3_below 4 (some .int), .methodLink RX3 45 yX3_insert, .instanceMethod yX3_insert, .selects RX3 yX3_insert yX3_insert, .code yX3_insert cX3_insert 5 none] ++ wsX30)
def wsX3_remove : List Cond := .code yX3_remove cX3_remove 4 (some .int) :: ([.fieldLink RX3 29 "OrderedVersionsModel" "code" "I", .fieldLink RX3 13 "OrderedVersionsModel" "values" "[I", .methodLink RX3 37 yX3_has, .instanceMethod yX3_has, .selects RX3 yX3_has yX3_has, .initialized RX3, .code yX3_has cX3_has 4 (some .boolean), .fieldLink RX3 16 "OrderedVersionsModel" "sizes" "[I", .fieldLink RX3 7 "OrderedVersionsModel" "keys" "[I", .methodLink RX3 33 yX3_below, .instanceMethod yX3_below, .selects RX3 yX3_below yX3_below, .code yX3_below cX3_below 4 (some .int), .methodLink RX3 49 yX3_takeOut, .instanceMethod yX3_takeOut, .selects RX3 yX3_takeOut yX3_takeOut, .code yX3_takeOut cX3_takeOut 4 none] ++ wsX30)
def wsX3_load : List Cond := .code yX3_load cX3_load 9 (some .int) :: ([.constantLong RX3 52 (2147483647), .fieldLink RX3 29 "OrderedVersionsModel" "code" "I", .fieldLink RX3 16 "OrderedVersionsModel" "sizes" "[I", .fieldLink RX3 7 "OrderedVersionsModel" "keys" "[I", .fieldLink RX3 13 "OrderedVersionsModel" "values" "[I"] ++ wsX30)
def wsX3_many : List Cond := .code yX3_many cX3_many 4 (some .int) :: ([.methodLink RX3 54 yX3_upTo, .instanceMethod yX3_upTo, .selects RX3 yX3_upTo yX3_upTo, .initialized RX3, .code yX3_upTo cX3_upTo 3 (some .int), .methodLink RX3 33 yX3_below, .instanceMethod yX3_below, .selects RX3 yX3_below yX3_below, .code yX3_below cX3_below 4 (some .int), .fieldLink RX3 16 "OrderedVersionsModel" "sizes" "[I", .fieldLink RX3 7 "OrderedVersionsModel" "keys" "[I", .methodLink RX3 37 yX3_has, .instanceMethod yX3_has, .selects RX3 yX3_has yX3_has, .code yX3_has cX3_has 4 (some .boolean)] ++ wsX30)
def wsX3_cut_r1 : List Cond := [Cond.fieldLink RX3 29 "OrderedVersionsModel" "code" "I", Cond.methodLink RX3 57 yX3_many, Cond.instanceMethod yX3_many, Cond.selects RX3 yX3_many yX3_many, Cond.initialized RX3, Cond.code yX3_many cX3_many 4 (some .int), Cond.methodLink RX3 54 yX3_upTo, Cond.instanceMethod yX3_upTo, Cond.selects RX3 yX3_upTo yX3_upTo, Cond.code yX3_upTo cX3_upTo 3 (some .int), Cond.methodLink RX3 33 yX3_below, Cond.instanceMethod yX3_below, Cond.selects RX3 yX3_below yX3_below, Cond.code yX3_below cX3_below 4 (some .int), Cond.fieldLink RX3 16 "OrderedVersionsModel" "sizes" "[I", Cond.fieldLink RX3 7 "OrderedVersionsModel" "keys" "[I", Cond.methodLink RX3 37 yX3_has, Cond.instanceMethod yX3_has, Cond.selects RX3 yX3_has yX3_has, Cond.code yX3_has cX3_has 4 (some .boolean), Cond.methodLink RX3 49 yX3_takeOut, Cond.instanceMethod yX3_takeOut, Cond.selects RX3 yX3_takeOut yX3_takeOut, Cond.code yX3_takeOut cX3_takeOut 4 none]
def wsX3_cut_r2 : List Cond := [Cond.fieldLink RX3 13 "OrderedVersionsModel" "values" "[I"]
def wsX3_cut : List Cond := .code yX3_cut cX3_cut 4 (some .int) :: ((wsX3_cut_r1 ++ wsX3_cut_r2) ++ wsX30)
def wsX3_merge : List Cond := .code yX3_merge cX3_merge 5 (some .int) :: ([.fieldLink RX3 29 "OrderedVersionsModel" "code" "I", .fieldLink RX3 16 "OrderedVersionsModel" "sizes" "[I", .fieldLink RX3 7 "OrderedVersionsModel" "keys" "[I", .fieldLink RX3 13 "OrderedVersionsModel" "values" "[I", .methodLink RX3 41 yX3_isVersion, .instanceMethod yX3_isVersion, .selects RX3 yX3_isVersion yX3_isVersion, .initialized RX3, .code yX3_isVersion cX3_isVersion 2 (some .boolean), .fieldLink RX3 19 "OrderedVersionsModel" "there" "[Z", .methodLink RX3 37 yX3_has, .instanceMethod yX3_has, .selects RX3 yX3_has yX3_has, .code yX3_has cX3_has 4 (some .boolean), .methodLink RX3 33 yX3_below, .instanceMethod yX3_below, .selects RX3 yX3_below yX3_below, .code yX3_below cX3_below 4 (some .int), .methodLink RX3 45 yX3_insert, .instanceMethod yX3_insert, .selects RX3 yX3_insert yX3_insert, .code yX3_insert cX3_insert 5 none] ++ wsX30)
def wsX3_snapshot : List Cond := .code yX3_snapshot cX3_snapshot 2 (some .int) :: ([.fieldLink RX3 29 "OrderedVersionsModel" "code" "I", .fieldLink RX3 19 "OrderedVersionsModel" "there" "[Z", .methodLink RX3 61 yX3_spare, .instanceMethod yX3_spare, .selects RX3 yX3_spare yX3_spare, .initialized RX3, .code yX3_spare cX3_spare 5 (some .int), .methodLink RX3 64 yX3_copy, .instanceMethod yX3_copy, .selects RX3 yX3_copy yX3_copy, .code yX3_copy cX3_copy 4 none, .fieldLink RX3 16 "OrderedVersionsModel" "sizes" "[I", .fieldLink RX3 7 "OrderedVersionsModel" "keys" "[I", .fieldLink RX3 13 "OrderedVersionsModel" "values" "[I"] ++ wsX30)
def wsX3_release : List Cond := .code yX3_release cX3_release 4 (some .int) :: ([.fieldLink RX3 29 "OrderedVersionsModel" "code" "I", .fieldLink RX3 19 "OrderedVersionsModel" "there" "[Z", .methodLink RX3 67 yX3_isSnapshot, .instanceMethod yX3_isSnapshot, .selects RX3 yX3_isSnapshot yX3_isSnapshot, .initialized RX3, .code yX3_isSnapshot cX3_isSnapshot 2 (some .boolean), .methodLink RX3 41 yX3_isVersion, .instanceMethod yX3_isVersion, .selects RX3 yX3_isVersion yX3_isVersion, .code yX3_isVersion cX3_isVersion 2 (some .boolean)] ++ wsX30)
def wsX3_restore : List Cond := .code yX3_restore cX3_restore 2 (some .int) :: ([.fieldLink RX3 29 "OrderedVersionsModel" "code" "I", .fieldLink RX3 16 "OrderedVersionsModel" "sizes" "[I", .methodLink RX3 67 yX3_isSnapshot, .instanceMethod yX3_isSnapshot, .selects RX3 yX3_isSnapshot yX3_isSnapshot, .initialized RX3, .code yX3_isSnapshot cX3_isSnapshot 2 (some .boolean), .methodLink RX3 41 yX3_isVersion, .instanceMethod yX3_isVersion, .selects RX3 yX3_isVersion yX3_isVersion, .code yX3_isVersion cX3_isVersion 2 (some .boolean), .fieldLink RX3 19 "OrderedVersionsModel" "there" "[Z", .methodLink RX3 64 yX3_copy, .instanceMethod yX3_copy, .selects RX3 yX3_copy yX3_copy, .code yX3_copy cX3_copy 4 none, .fieldLink RX3 7 "OrderedVersionsModel" "keys" "[I", .fieldLink RX3 13 "OrderedVersionsModel" "values" "[I"] ++ wsX30)
def wsX3_size : List Cond := .code yX3_size cX3_size 2 (some .int) :: ([.fieldLink RX3 29 "OrderedVersionsModel" "code" "I", .fieldLink RX3 16 "OrderedVersionsModel" "sizes" "[I", .methodLink RX3 41 yX3_isVersion, .instanceMethod yX3_isVersion, .selects RX3 yX3_isVersion yX3_isVersion, .initialized RX3, .code yX3_isVersion cX3_isVersion 2 (some .boolean), .fieldLink RX3 19 "OrderedVersionsModel" "there" "[Z"] ++ wsX30)
def wsX3_get : List Cond := .code yX3_get cX3_get 3 (some .int) :: ([.fieldLink RX3 29 "OrderedVersionsModel" "code" "I", .fieldLink RX3 13 "OrderedVersionsModel" "values" "[I", .methodLink RX3 41 yX3_isVersion, .instanceMethod yX3_isVersion, .selects RX3 yX3_isVersion yX3_isVersion, .initialized RX3, .code yX3_isVersion cX3_isVersion 2 (some .boolean), .fieldLink RX3 19 "OrderedVersionsModel" "there" "[Z", .methodLink RX3 37 yX3_has, .instanceMethod yX3_has, .selects RX3 yX3_has yX3_has, .code yX3_has cX3_has 4 (some .boolean), .fieldLink RX3 16 "OrderedVersionsModel" "sizes" "[I", .fieldLink RX3 7 "OrderedVersionsModel" "keys" "[I", .methodLink RX3 33 yX3_below, .instanceMethod yX3_below, .selects RX3 yX3_below yX3_below, .code yX3_below cX3_below 4 (some .int)] ++ wsX30)
def wsX3_rank : List Cond := .code yX3_rank cX3_rank 3 (some .int) :: ([.fieldLink RX3 29 "OrderedVersionsModel" "code" "I", .methodLink RX3 41 yX3_isVersion, .instanceMethod yX3_isVersion, .selects RX3 yX3_isVersion yX3_isVersion, .initialized RX3, .code yX3_isVersion cX3_isVersion 2 (some .boolean), .fieldLink RX3 19 "OrderedVersionsModel" "there" "[Z", .methodLink RX3 33 yX3_below, .instanceMethod yX3_below, .selects RX3 yX3_below yX3_below, .code yX3_below cX3_below 4 (some .int), .fieldLink RX3 16 "OrderedVersionsModel" "sizes" "[I", .fieldLink RX3 7 "OrderedVersionsModel" "keys" "[I"] ++ wsX30)
def wsX3_select : List Cond := .code yX3_select cX3_select 3 (some .int) :: ([.fieldLink RX3 16 "OrderedVersionsModel" "sizes" "[I", .fieldLink RX3 29 "OrderedVersionsModel" "code" "I", .fieldLink RX3 7 "OrderedVersionsModel" "keys" "[I", .methodLink RX3 41 yX3_isVersion, .instanceMethod yX3_isVersion, .selects RX3 yX3_isVersion yX3_isVersion, .initialized RX3, .code yX3_isVersion cX3_isVersion 2 (some .boolean), .fieldLink RX3 19 "OrderedVersionsModel" "there" "[Z"] ++ wsX30)
def wsX3_near : List Cond := .code yX3_near cX3_near 5 (some .int) :: ([.fieldLink RX3 29 "OrderedVersionsModel" "code" "I", .fieldLink RX3 16 "OrderedVersionsModel" "sizes" "[I", .fieldLink RX3 7 "OrderedVersionsModel" "keys" "[I", .methodLink RX3 41 yX3_isVersion, .instanceMethod yX3_isVersion, .selects RX3 yX3_isVersion yX3_isVersion, .initialized RX3, .code yX3_isVersion cX3_isVersion 2 (some .boolean), .fieldLink RX3 19 "OrderedVersionsModel" "there" "[Z", .methodLink RX3 33 yX3_below, .instanceMethod yX3_below, .selects RX3 yX3_below yX3_below, .code yX3_below cX3_below 4 (some .int), .methodLink RX3 54 yX3_upTo, .instanceMethod yX3_upTo, .selects RX3 yX3_upTo yX3_upTo, .code yX3_upTo cX3_upTo 3 (some .int), .methodLink RX3 37 yX3_has, .instanceMethod yX3_has, .selects RX3 yX3_has yX3_has, .code yX3_has cX3_has 4 (some .boolean)] ++ wsX30)
def wsX3_sum : List Cond := .code yX3_sum cX3_sum 8 (some .long) :: ([.fieldLink RX3 29 "OrderedVersionsModel" "code" "I", .fieldLink RX3 16 "OrderedVersionsModel" "sizes" "[I", .fieldLink RX3 7 "OrderedVersionsModel" "keys" "[I", .fieldLink RX3 13 "OrderedVersionsModel" "values" "[I", .methodLink RX3 41 yX3_isVersion, .instanceMethod yX3_isVersion, .selects RX3 yX3_isVersion yX3_isVersion, .initialized RX3, .code yX3_isVersion cX3_isVersion 2 (some .boolean), .fieldLink RX3 19 "OrderedVersionsModel" "there" "[Z"] ++ wsX30)
def wsX3_greatest_r1 : List Cond := [Cond.fieldLink RX3 29 "OrderedVersionsModel" "code" "I", Cond.constant RX3 70 (-2147483648), Cond.fieldLink RX3 16 "OrderedVersionsModel" "sizes" "[I", Cond.fieldLink RX3 7 "OrderedVersionsModel" "keys" "[I", Cond.fieldLink RX3 13 "OrderedVersionsModel" "values" "[I", Cond.methodLink RX3 41 yX3_isVersion, Cond.instanceMethod yX3_isVersion, Cond.selects RX3 yX3_isVersion yX3_isVersion, Cond.initialized RX3, Cond.code yX3_isVersion cX3_isVersion 2 (some .boolean), Cond.fieldLink RX3 19 "OrderedVersionsModel" "there" "[Z", Cond.methodLink RX3 57 yX3_many, Cond.instanceMethod yX3_many, Cond.selects RX3 yX3_many yX3_many, Cond.code yX3_many cX3_many 4 (some .int), Cond.methodLink RX3 54 yX3_upTo, Cond.instanceMethod yX3_upTo, Cond.selects RX3 yX3_upTo yX3_upTo, Cond.code yX3_upTo cX3_upTo 3 (some .int), Cond.methodLink RX3 33 yX3_below, Cond.instanceMethod yX3_below, Cond.selects RX3 yX3_below yX3_below, Cond.code yX3_below cX3_below 4 (some .int), Cond.methodLink RX3 37 yX3_has]
def wsX3_greatest_r2 : List Cond := [Cond.instanceMethod yX3_has, Cond.selects RX3 yX3_has yX3_has, Cond.code yX3_has cX3_has 4 (some .boolean)]
def wsX3_greatest : List Cond := .code yX3_greatest cX3_greatest 8 (some .int) :: ((wsX3_greatest_r1 ++ wsX3_greatest_r2) ++ wsX30)
def wsX3_isOther : List Cond := .code yX3_isOther cX3_isOther 5 (some .boolean) :: ([.fieldLink RX3 7 "OrderedVersionsModel" "keys" "[I", .fieldLink RX3 13 "OrderedVersionsModel" "values" "[I", .methodLink RX3 37 yX3_has, .instanceMethod yX3_has, .selects RX3 yX3_has yX3_has, .initialized RX3, .code yX3_has cX3_has 4 (some .boolean), .fieldLink RX3 16 "OrderedVersionsModel" "sizes" "[I", .methodLink RX3 33 yX3_below, .instanceMethod yX3_below, .selects RX3 yX3_below yX3_below, .code yX3_below cX3_below 4 (some .int)] ++ wsX30)
def wsX3_differs : List Cond := .code yX3_differs cX3_differs 5 (some .int) :: ([.fieldLink RX3 29 "OrderedVersionsModel" "code" "I", .fieldLink RX3 16 "OrderedVersionsModel" "sizes" "[I", .fieldLink RX3 7 "OrderedVersionsModel" "keys" "[I", .methodLink RX3 41 yX3_isVersion, .instanceMethod yX3_isVersion, .selects RX3 yX3_isVersion yX3_isVersion, .initialized RX3, .code yX3_isVersion cX3_isVersion 2 (some .boolean), .fieldLink RX3 19 "OrderedVersionsModel" "there" "[Z", .methodLink RX3 71 yX3_isOther, .instanceMethod yX3_isOther, .selects RX3 yX3_isOther yX3_isOther, .code yX3_isOther cX3_isOther 5 (some .boolean), .fieldLink RX3 13 "OrderedVersionsModel" "values" "[I", .methodLink RX3 37 yX3_has, .instanceMethod yX3_has, .selects RX3 yX3_has yX3_has, .code yX3_has cX3_has 4 (some .boolean), .methodLink RX3 33 yX3_below, .instanceMethod yX3_below, .selects RX3 yX3_below yX3_below, .code yX3_below cX3_below 4 (some .int)] ++ wsX30)
def wsX3_firstOther : List Cond := .code yX3_firstOther cX3_firstOther 4 (some .int) :: ([.fieldLink RX3 16 "OrderedVersionsModel" "sizes" "[I", .methodLink RX3 71 yX3_isOther, .instanceMethod yX3_isOther, .selects RX3 yX3_isOther yX3_isOther, .initialized RX3, .code yX3_isOther cX3_isOther 5 (some .boolean), .fieldLink RX3 7 "OrderedVersionsModel" "keys" "[I", .fieldLink RX3 13 "OrderedVersionsModel" "values" "[I", .methodLink RX3 37 yX3_has, .instanceMethod yX3_has, .selects RX3 yX3_has yX3_has, .code yX3_has cX3_has 4 (some .boolean), .methodLink RX3 33 yX3_below, .instanceMethod yX3_below, .selects RX3 yX3_below yX3_below, .code yX3_below cX3_below 4 (some .int)] ++ wsX30)
def wsX3_firstDifference_r1 : List Cond := [Cond.fieldLink RX3 29 "OrderedVersionsModel" "code" "I", Cond.fieldLink RX3 16 "OrderedVersionsModel" "sizes" "[I", Cond.fieldLink RX3 7 "OrderedVersionsModel" "keys" "[I", Cond.methodLink RX3 41 yX3_isVersion, Cond.instanceMethod yX3_isVersion, Cond.selects RX3 yX3_isVersion yX3_isVersion, Cond.initialized RX3, Cond.code yX3_isVersion cX3_isVersion 2 (some .boolean), Cond.fieldLink RX3 19 "OrderedVersionsModel" "there" "[Z", Cond.methodLink RX3 75 yX3_firstOther, Cond.instanceMethod yX3_firstOther, Cond.selects RX3 yX3_firstOther yX3_firstOther, Cond.code yX3_firstOther cX3_firstOther 4 (some .int), Cond.methodLink RX3 71 yX3_isOther, Cond.instanceMethod yX3_isOther, Cond.selects RX3 yX3_isOther yX3_isOther, Cond.code yX3_isOther cX3_isOther 5 (some .boolean), Cond.fieldLink RX3 13 "OrderedVersionsModel" "values" "[I", Cond.methodLink RX3 37 yX3_has, Cond.instanceMethod yX3_has, Cond.selects RX3 yX3_has yX3_has, Cond.code yX3_has cX3_has 4 (some .boolean), Cond.methodLink RX3 33 yX3_below, Cond.instanceMethod yX3_below]
def wsX3_firstDifference_r2 : List Cond := [Cond.selects RX3 yX3_below yX3_below, Cond.code yX3_below cX3_below 4 (some .int)]
def wsX3_firstDifference : List Cond := .code yX3_firstDifference cX3_firstDifference 9 (some .int) :: ((wsX3_firstDifference_r1 ++ wsX3_firstDifference_r2) ++ wsX30)
def wsX3_open_r1 : List Cond := [Cond.fieldLink RX3 29 "OrderedVersionsModel" "code" "I", Cond.fieldLink RX3 19 "OrderedVersionsModel" "there" "[Z", Cond.fieldLink RX3 23 "OrderedVersionsModel" "places" "[I", Cond.fieldLink RX3 26 "OrderedVersionsModel" "downs" "[Z", Cond.methodLink RX3 61 yX3_spare, Cond.instanceMethod yX3_spare, Cond.selects RX3 yX3_spare yX3_spare, Cond.initialized RX3, Cond.code yX3_spare cX3_spare 5 (some .int), Cond.methodLink RX3 41 yX3_isVersion, Cond.instanceMethod yX3_isVersion, Cond.selects RX3 yX3_isVersion yX3_isVersion, Cond.code yX3_isVersion cX3_isVersion 2 (some .boolean), Cond.methodLink RX3 64 yX3_copy, Cond.instanceMethod yX3_copy, Cond.selects RX3 yX3_copy yX3_copy, Cond.code yX3_copy cX3_copy 4 none, Cond.fieldLink RX3 16 "OrderedVersionsModel" "sizes" "[I", Cond.fieldLink RX3 7 "OrderedVersionsModel" "keys" "[I", Cond.fieldLink RX3 13 "OrderedVersionsModel" "values" "[I", Cond.methodLink RX3 54 yX3_upTo, Cond.instanceMethod yX3_upTo, Cond.selects RX3 yX3_upTo yX3_upTo, Cond.code yX3_upTo cX3_upTo 3 (some .int)]
def wsX3_open_r2 : List Cond := [Cond.methodLink RX3 33 yX3_below, Cond.instanceMethod yX3_below, Cond.selects RX3 yX3_below yX3_below, Cond.code yX3_below cX3_below 4 (some .int), Cond.methodLink RX3 37 yX3_has, Cond.instanceMethod yX3_has, Cond.selects RX3 yX3_has yX3_has, Cond.code yX3_has cX3_has 4 (some .boolean)]
def wsX3_open : List Cond := .code yX3_open cX3_open 5 (some .int) :: ((wsX3_open_r1 ++ wsX3_open_r2) ++ wsX30)
def wsX3_isAtEnd : List Cond := .code yX3_isAtEnd cX3_isAtEnd 2 (some .boolean) :: ([.fieldLink RX3 23 "OrderedVersionsModel" "places" "[I", .fieldLink RX3 16 "OrderedVersionsModel" "sizes" "[I"] ++ wsX30)
def wsX3_goOn : List Cond := .code yX3_goOn cX3_goOn 2 none :: ([.fieldLink RX3 23 "OrderedVersionsModel" "places" "[I", .fieldLink RX3 26 "OrderedVersionsModel" "downs" "[Z"] ++ wsX30)
def wsX3_next : List Cond := .code yX3_next cX3_next 3 (some .int) :: ([.fieldLink RX3 29 "OrderedVersionsModel" "code" "I", .fieldLink RX3 7 "OrderedVersionsModel" "keys" "[I", .fieldLink RX3 23 "OrderedVersionsModel" "places" "[I", .methodLink RX3 78 yX3_isCursor, .instanceMethod yX3_isCursor, .selects RX3 yX3_isCursor yX3_isCursor, .initialized RX3, .code yX3_isCursor cX3_isCursor 2 (some .boolean), .fieldLink RX3 19 "OrderedVersionsModel" "there" "[Z", .methodLink RX3 81 yX3_isAtEnd, .instanceMethod yX3_isAtEnd, .selects RX3 yX3_isAtEnd yX3_isAtEnd, .code yX3_isAtEnd cX3_isAtEnd 2 (some .boolean), .fieldLink RX3 16 "OrderedVersionsModel" "sizes" "[I", .methodLink RX3 84 yX3_goOn, .instanceMethod yX3_goOn, .selects RX3 yX3_goOn yX3_goOn, .code yX3_goOn cX3_goOn 2 none, .fieldLink RX3 26 "OrderedVersionsModel" "downs" "[Z"] ++ wsX30)
def wsX3_skip : List Cond := .code yX3_skip cX3_skip 4 (some .int) :: ([.fieldLink RX3 29 "OrderedVersionsModel" "code" "I", .methodLink RX3 78 yX3_isCursor, .instanceMethod yX3_isCursor, .selects RX3 yX3_isCursor yX3_isCursor, .initialized RX3, .code yX3_isCursor cX3_isCursor 2 (some .boolean), .fieldLink RX3 19 "OrderedVersionsModel" "there" "[Z", .methodLink RX3 81 yX3_isAtEnd, .instanceMethod yX3_isAtEnd, .selects RX3 yX3_isAtEnd yX3_isAtEnd, .code yX3_isAtEnd cX3_isAtEnd 2 (some .boolean), .fieldLink RX3 23 "OrderedVersionsModel" "places" "[I", .fieldLink RX3 16 "OrderedVersionsModel" "sizes" "[I", .methodLink RX3 84 yX3_goOn, .instanceMethod yX3_goOn, .selects RX3 yX3_goOn yX3_goOn, .code yX3_goOn cX3_goOn 2 none, .fieldLink RX3 26 "OrderedVersionsModel" "downs" "[Z"] ++ wsX30)
def wsX3_peek : List Cond := .code yX3_peek cX3_peek 2 (some .int) :: ([.fieldLink RX3 29 "OrderedVersionsModel" "code" "I", .fieldLink RX3 13 "OrderedVersionsModel" "values" "[I", .fieldLink RX3 23 "OrderedVersionsModel" "places" "[I", .methodLink RX3 78 yX3_isCursor, .instanceMethod yX3_isCursor, .selects RX3 yX3_isCursor yX3_isCursor, .initialized RX3, .code yX3_isCursor cX3_isCursor 2 (some .boolean), .fieldLink RX3 19 "OrderedVersionsModel" "there" "[Z", .methodLink RX3 81 yX3_isAtEnd, .instanceMethod yX3_isAtEnd, .selects RX3 yX3_isAtEnd yX3_isAtEnd, .code yX3_isAtEnd cX3_isAtEnd 2 (some .boolean), .fieldLink RX3 16 "OrderedVersionsModel" "sizes" "[I"] ++ wsX30)
def wsX3_close : List Cond := .code yX3_close cX3_close 4 (some .int) :: ([.fieldLink RX3 29 "OrderedVersionsModel" "code" "I", .fieldLink RX3 19 "OrderedVersionsModel" "there" "[Z", .methodLink RX3 78 yX3_isCursor, .instanceMethod yX3_isCursor, .selects RX3 yX3_isCursor yX3_isCursor, .initialized RX3, .code yX3_isCursor cX3_isCursor 2 (some .boolean)] ++ wsX30)
def wsX3_astray : List Cond := .code yX3_astray cX3_astray 1 (some .int) :: ([.fieldLink RX3 29 "OrderedVersionsModel" "code" "I"] ++ wsX30)
def wsJ9_max_7cf53 : List Cond := .code yJ9_max_7cf53 cJ9_max_7cf53 2 (some .int) :: ([])
def wsJ9_min_7cf53 : List Cond := .code yJ9_min_7cf53 cJ9_min_7cf53 2 (some .int) :: ([])
def wsL_put_r1 : List Cond := [Cond.classLink RL 13 "java/lang/UnsupportedOperationException", Cond.methodLink RL 7 yX2_put, Cond.instanceMethod yX2_put, Cond.selects RX2 yX2_put yX2_put, Cond.initialized RX2, Cond.code yX2_put cX2_put 4 (some .boolean), Cond.classLink RX2 50 "java/lang/UnsupportedOperationException", Cond.initialized "java/lang/UnsupportedOperationException", Cond.fieldLink RX2 10 "OrderedVersions" "present" "LOrderedVersions$Table;", Cond.fieldLink RX2 42 "OrderedVersions$Table" "values" "[I", Cond.fieldLink RX2 46 "OrderedVersions$Table" "count" "I", Cond.methodLink RX2 34 yX1_countBelow, Cond.instanceMethod yX1_countBelow, Cond.selects RX1 yX1_countBelow yX1_countBelow, Cond.initialized RX1, Cond.code yX1_countBelow cX1_countBelow 3 (some .int), Cond.fieldLink RX1 18 "OrderedVersions$Table" "count" "I", Cond.fieldLink RX1 9 "OrderedVersions$Table" "keys" "[I", Cond.methodLink RX2 38 yX1_hasAt, Cond.instanceMethod yX1_hasAt, Cond.selects RX1 yX1_hasAt yX1_hasAt, Cond.code yX1_hasAt cX1_hasAt 3 (some .boolean), Cond.methodLink RX1 22 yX1_isWithin, Cond.instanceMethod yX1_isWithin]
def wsL_put_r2 : List Cond := [Cond.selects RX1 yX1_isWithin yX1_isWithin, Cond.code yX1_isWithin cX1_isWithin 2 (some .boolean), Cond.methodLink RX2 53 yX1_insertAt, Cond.instanceMethod yX1_insertAt, Cond.selects RX1 yX1_insertAt yX1_insertAt, Cond.code yX1_insertAt cX1_insertAt 4 none, Cond.methodLink RX1 37 arraycopyName, Cond.native arraycopyName, Cond.static arraycopyName, Cond.initialized "java/lang/System", Cond.fieldLink RX1 15 "OrderedVersions$Table" "values" "[I"]
def wsL_put : List Cond := .codeWith yL_put cL_put 5 (some .int) [(0, 17, 20, 13)] :: ((wsL_put_r1 ++ wsL_put_r2) ++ wsX20 ++ wsX10 ++ (vx_at0 RX2 52 "java/lang/UnsupportedOperationException" ["java/lang/RuntimeException", "java/lang/Exception"]).filter goodWord)
def wsL_remove_r1 : List Cond := [Cond.classLink RL 19 "java/util/NoSuchElementException", Cond.methodLink RL 15 yX2_remove, Cond.instanceMethod yX2_remove, Cond.selects RX2 yX2_remove yX2_remove, Cond.initialized RX2, Cond.code yX2_remove cX2_remove 4 (some .int), Cond.classLink RX2 57 "java/util/NoSuchElementException", Cond.initialized "java/util/NoSuchElementException", Cond.fieldLink RX2 10 "OrderedVersions" "present" "LOrderedVersions$Table;", Cond.fieldLink RX2 42 "OrderedVersions$Table" "values" "[I", Cond.methodLink RX2 34 yX1_countBelow, Cond.instanceMethod yX1_countBelow, Cond.selects RX1 yX1_countBelow yX1_countBelow, Cond.initialized RX1, Cond.code yX1_countBelow cX1_countBelow 3 (some .int), Cond.fieldLink RX1 18 "OrderedVersions$Table" "count" "I", Cond.fieldLink RX1 9 "OrderedVersions$Table" "keys" "[I", Cond.methodLink RX2 38 yX1_hasAt, Cond.instanceMethod yX1_hasAt, Cond.selects RX1 yX1_hasAt yX1_hasAt, Cond.code yX1_hasAt cX1_hasAt 3 (some .boolean), Cond.methodLink RX1 22 yX1_isWithin, Cond.instanceMethod yX1_isWithin, Cond.selects RX1 yX1_isWithin yX1_isWithin]
def wsL_remove_r2 : List Cond := [Cond.code yX1_isWithin cX1_isWithin 2 (some .boolean), Cond.methodLink RX2 60 yX1_dropBetween, Cond.instanceMethod yX1_dropBetween, Cond.selects RX1 yX1_dropBetween yX1_dropBetween, Cond.code yX1_dropBetween cX1_dropBetween 3 none, Cond.methodLink RX1 37 arraycopyName, Cond.native arraycopyName, Cond.static arraycopyName, Cond.initialized "java/lang/System", Cond.fieldLink RX1 15 "OrderedVersions$Table" "values" "[I"]
def wsL_remove : List Cond := .codeWith yL_remove cL_remove 4 (some .int) [(0, 9, 12, 19)] :: ((wsL_remove_r1 ++ wsL_remove_r2) ++ wsX20 ++ wsX10 ++ (vx_at0 RX2 59 "java/util/NoSuchElementException" ["java/lang/RuntimeException", "java/lang/Exception"]).filter goodWord)
def wsL_load : List Cond := .codeWith yL_load cL_load 8 (some .int) [(0, 16, 19, 25)] :: ([.classLink RL 25 "java/lang/IllegalArgumentException", .methodLink RL 21 yX2_load, .instanceMethod yX2_load, .selects RX2 yX2_load yX2_load, .initialized RX2, .code yX2_load cX2_load 9 (some .int), .classLink RX2 64 "java/lang/IllegalArgumentException", .initialized "java/lang/IllegalArgumentException", .constantLong RX2 69 (2147483647), .fieldLink RX2 10 "OrderedVersions" "present" "LOrderedVersions$Table;", .fieldLink RX2 46 "OrderedVersions$Table" "count" "I", .methodLink RX2 71 yX1_fill, .instanceMethod yX1_fill, .selects RX1 yX1_fill yX1_fill, .initialized RX1, .code yX1_fill cX1_fill 8 none, .fieldLink RX1 9 "OrderedVersions$Table" "keys" "[I", .fieldLink RX1 15 "OrderedVersions$Table" "values" "[I", .fieldLink RX1 18 "OrderedVersions$Table" "count" "I"] ++ wsX20 ++ wsX10 ++ (vx_at0 RX2 66 "java/lang/IllegalArgumentException" ["java/lang/RuntimeException", "java/lang/Exception"]).filter goodWord)
def wsL_merge_r1 : List Cond := [Cond.classLink RL 30 "java/lang/IndexOutOfBoundsException", Cond.classLink RL 13 "java/lang/UnsupportedOperationException", Cond.methodLink RL 27 yX2_merge, Cond.instanceMethod yX2_merge, Cond.selects RX2 yX2_merge yX2_merge, Cond.initialized RX2, Cond.code yX2_merge cX2_merge 4 (some .int), Cond.classLink RX2 50 "java/lang/UnsupportedOperationException", Cond.initialized "java/lang/UnsupportedOperationException", Cond.fieldLink RX2 46 "OrderedVersions$Table" "count" "I", Cond.fieldLink RX2 10 "OrderedVersions" "present" "LOrderedVersions$Table;", Cond.methodLink RX2 78 yX2_mapOf, Cond.instanceMethod yX2_mapOf, Cond.selects RX2 yX2_mapOf yX2_mapOf, Cond.code yX2_mapOf cX2_mapOf 2 (some (.object "OrderedVersions$Table")), Cond.classLink RX2 166 "java/lang/IndexOutOfBoundsException", Cond.initialized "java/lang/IndexOutOfBoundsException", Cond.fieldLink RX2 20 "OrderedVersions" "versionTaken" "[Z", Cond.fieldLink RX2 16 "OrderedVersions" "versions" "[LOrderedVersions$Table;", Cond.methodLink RX2 162 yX2_isTaken, Cond.static yX2_isTaken, Cond.code yX2_isTaken cX2_isTaken 2 (some .boolean), Cond.methodLink RX2 82 yX1_countShared, Cond.instanceMethod yX1_countShared]
def wsL_merge_r2 : List Cond := [Cond.selects RX1 yX1_countShared yX1_countShared, Cond.initialized RX1, Cond.code yX1_countShared cX1_countShared 6 (some .int), Cond.fieldLink RX1 18 "OrderedVersions$Table" "count" "I", Cond.fieldLink RX1 9 "OrderedVersions$Table" "keys" "[I", Cond.fieldLink RX1 15 "OrderedVersions$Table" "values" "[I", Cond.methodLink RX1 30 yX1_hasAt, Cond.instanceMethod yX1_hasAt, Cond.selects RX1 yX1_hasAt yX1_hasAt, Cond.code yX1_hasAt cX1_hasAt 3 (some .boolean), Cond.methodLink RX1 22 yX1_isWithin, Cond.instanceMethod yX1_isWithin, Cond.selects RX1 yX1_isWithin yX1_isWithin, Cond.code yX1_isWithin cX1_isWithin 2 (some .boolean), Cond.methodLink RX2 86 yX1_takeOver, Cond.instanceMethod yX1_takeOver, Cond.selects RX1 yX1_takeOver yX1_takeOver, Cond.code yX1_takeOver cX1_takeOver 7 none]
def wsL_merge : List Cond := .codeWith yL_merge cL_merge 4 (some .int) [(0, 9, 12, 30), (0, 9, 15, 13)] :: ((wsL_merge_r1 ++ wsL_merge_r2) ++ wsX10 ++ wsX20 ++ (vx_at0 RX2 52 "java/lang/UnsupportedOperationException" ["java/lang/RuntimeException", "java/lang/Exception"]).filter goodWord ++ (vx_at0 RX2 168 "java/lang/IndexOutOfBoundsException" ["java/lang/RuntimeException", "java/lang/Exception"]).filter goodWord)
def wsL_snapshot_r1 : List Cond := [Cond.classLink RL 13 "java/lang/UnsupportedOperationException", Cond.methodLink RL 32 yX2_snapshot, Cond.instanceMethod yX2_snapshot, Cond.selects RX2 yX2_snapshot yX2_snapshot, Cond.initialized RX2, Cond.code yX2_snapshot cX2_snapshot 2 (some .int), Cond.classLink RX2 50 "java/lang/UnsupportedOperationException", Cond.initialized "java/lang/UnsupportedOperationException", Cond.fieldLink RX2 20 "OrderedVersions" "versionTaken" "[Z", Cond.fieldLink RX2 16 "OrderedVersions" "versions" "[LOrderedVersions$Table;", Cond.fieldLink RX2 10 "OrderedVersions" "present" "LOrderedVersions$Table;", Cond.methodLink RX2 90 yX2_leastFree, Cond.static yX2_leastFree, Cond.code yX2_leastFree cX2_leastFree 3 (some .int), Cond.methodLink RX2 94 yX1_copyFrom, Cond.instanceMethod yX1_copyFrom, Cond.selects RX1 yX1_copyFrom yX1_copyFrom, Cond.initialized RX1, Cond.code yX1_copyFrom cX1_copyFrom 2 none, Cond.fieldLink RX1 9 "OrderedVersions$Table" "keys" "[I", Cond.fieldLink RX1 18 "OrderedVersions$Table" "count" "I", Cond.methodLink RX1 37 arraycopyName, Cond.native arraycopyName, Cond.static arraycopyName]
def wsL_snapshot_r2 : List Cond := [Cond.initialized "java/lang/System", Cond.fieldLink RX1 15 "OrderedVersions$Table" "values" "[I"]
def wsL_snapshot : List Cond := .codeWith yL_snapshot cL_snapshot 3 (some .int) [(0, 8, 11, 13)] :: ((wsL_snapshot_r1 ++ wsL_snapshot_r2) ++ wsX20 ++ wsX10 ++ (vx_at0 RX2 52 "java/lang/UnsupportedOperationException" ["java/lang/RuntimeException", "java/lang/Exception"]).filter goodWord)
def wsL_release_r1 : List Cond := [Cond.classLink RL 30 "java/lang/IndexOutOfBoundsException", Cond.methodLink RL 36 yX2_release, Cond.instanceMethod yX2_release, Cond.selects RX2 yX2_release yX2_release, Cond.initialized RX2, Cond.code yX2_release cX2_release 2 (some .int), Cond.fieldLink RX2 46 "OrderedVersions$Table" "count" "I", Cond.fieldLink RX2 20 "OrderedVersions" "versionTaken" "[Z", Cond.methodLink RX2 98 yX2_snapshotOf, Cond.instanceMethod yX2_snapshotOf, Cond.selects RX2 yX2_snapshotOf yX2_snapshotOf, Cond.code yX2_snapshotOf cX2_snapshotOf 2 (some (.object "OrderedVersions$Table")), Cond.classLink RX2 166 "java/lang/IndexOutOfBoundsException", Cond.initialized "java/lang/IndexOutOfBoundsException", Cond.methodLink RX2 78 yX2_mapOf, Cond.instanceMethod yX2_mapOf, Cond.selects RX2 yX2_mapOf yX2_mapOf, Cond.code yX2_mapOf cX2_mapOf 2 (some (.object "OrderedVersions$Table")), Cond.fieldLink RX2 16 "OrderedVersions" "versions" "[LOrderedVersions$Table;", Cond.methodLink RX2 162 yX2_isTaken, Cond.static yX2_isTaken, Cond.code yX2_isTaken cX2_isTaken 2 (some .boolean), Cond.methodLink RX2 101 yX2_countTaken, Cond.static yX2_countTaken]
def wsL_release_r2 : List Cond := [Cond.code yX2_countTaken cX2_countTaken 4 (some .int)]
def wsL_release : List Cond := .codeWith yL_release cL_release 4 (some .int) [(0, 9, 12, 30)] :: ((wsL_release_r1 ++ wsL_release_r2) ++ wsX10 ++ wsX20 ++ (vx_at0 RX2 168 "java/lang/IndexOutOfBoundsException" ["java/lang/RuntimeException", "java/lang/Exception"]).filter goodWord)
def wsL_restore_r1 : List Cond := [Cond.classLink RL 30 "java/lang/IndexOutOfBoundsException", Cond.methodLink RL 39 yX2_restore, Cond.instanceMethod yX2_restore, Cond.selects RX2 yX2_restore yX2_restore, Cond.initialized RX2, Cond.code yX2_restore cX2_restore 2 (some .int), Cond.fieldLink RX2 10 "OrderedVersions" "present" "LOrderedVersions$Table;", Cond.fieldLink RX2 46 "OrderedVersions$Table" "count" "I", Cond.methodLink RX2 98 yX2_snapshotOf, Cond.instanceMethod yX2_snapshotOf, Cond.selects RX2 yX2_snapshotOf yX2_snapshotOf, Cond.code yX2_snapshotOf cX2_snapshotOf 2 (some (.object "OrderedVersions$Table")), Cond.classLink RX2 166 "java/lang/IndexOutOfBoundsException", Cond.initialized "java/lang/IndexOutOfBoundsException", Cond.methodLink RX2 78 yX2_mapOf, Cond.instanceMethod yX2_mapOf, Cond.selects RX2 yX2_mapOf yX2_mapOf, Cond.code yX2_mapOf cX2_mapOf 2 (some (.object "OrderedVersions$Table")), Cond.fieldLink RX2 20 "OrderedVersions" "versionTaken" "[Z", Cond.fieldLink RX2 16 "OrderedVersions" "versions" "[LOrderedVersions$Table;", Cond.methodLink RX2 162 yX2_isTaken, Cond.static yX2_isTaken, Cond.code yX2_isTaken cX2_isTaken 2 (some .boolean), Cond.methodLink RX2 94 yX1_copyFrom]
def wsL_restore_r2 : List Cond := [Cond.instanceMethod yX1_copyFrom, Cond.selects RX1 yX1_copyFrom yX1_copyFrom, Cond.initialized RX1, Cond.code yX1_copyFrom cX1_copyFrom 2 none, Cond.fieldLink RX1 9 "OrderedVersions$Table" "keys" "[I", Cond.fieldLink RX1 18 "OrderedVersions$Table" "count" "I", Cond.methodLink RX1 37 arraycopyName, Cond.native arraycopyName, Cond.static arraycopyName, Cond.initialized "java/lang/System", Cond.fieldLink RX1 15 "OrderedVersions$Table" "values" "[I"]
def wsL_restore : List Cond := .codeWith yL_restore cL_restore 4 (some .int) [(0, 9, 12, 30)] :: ((wsL_restore_r1 ++ wsL_restore_r2) ++ wsX20 ++ wsX10 ++ (vx_at0 RX2 168 "java/lang/IndexOutOfBoundsException" ["java/lang/RuntimeException", "java/lang/Exception"]).filter goodWord)
def wsL_size : List Cond := .codeWith yL_size cL_size 4 (some .int) [(0, 9, 12, 30)] :: ([.classLink RL 30 "java/lang/IndexOutOfBoundsException", .methodLink RL 42 yX2_size, .instanceMethod yX2_size, .selects RX2 yX2_size yX2_size, .initialized RX2, .code yX2_size cX2_size 2 (some .int), .fieldLink RX2 46 "OrderedVersions$Table" "count" "I", .methodLink RX2 78 yX2_mapOf, .instanceMethod yX2_mapOf, .selects RX2 yX2_mapOf yX2_mapOf, .code yX2_mapOf cX2_mapOf 2 (some (.object "OrderedVersions$Table")), .classLink RX2 166 "java/lang/IndexOutOfBoundsException", .initialized "java/lang/IndexOutOfBoundsException", .fieldLink RX2 20 "OrderedVersions" "versionTaken" "[Z", .fieldLink RX2 16 "OrderedVersions" "versions" "[LOrderedVersions$Table;", .methodLink RX2 162 yX2_isTaken, .static yX2_isTaken, .code yX2_isTaken cX2_isTaken 2 (some .boolean)] ++ wsX10 ++ wsX20 ++ (vx_at0 RX2 168 "java/lang/IndexOutOfBoundsException" ["java/lang/RuntimeException", "java/lang/Exception"]).filter goodWord)
def wsL_get_r1 : List Cond := [Cond.classLink RL 30 "java/lang/IndexOutOfBoundsException", Cond.classLink RL 19 "java/util/NoSuchElementException", Cond.methodLink RL 45 yX2_get, Cond.instanceMethod yX2_get, Cond.selects RX2 yX2_get yX2_get, Cond.initialized RX2, Cond.code yX2_get cX2_get 5 (some .int), Cond.classLink RX2 57 "java/util/NoSuchElementException", Cond.initialized "java/util/NoSuchElementException", Cond.fieldLink RX2 42 "OrderedVersions$Table" "values" "[I", Cond.methodLink RX2 78 yX2_mapOf, Cond.instanceMethod yX2_mapOf, Cond.selects RX2 yX2_mapOf yX2_mapOf, Cond.code yX2_mapOf cX2_mapOf 2 (some (.object "OrderedVersions$Table")), Cond.classLink RX2 166 "java/lang/IndexOutOfBoundsException", Cond.initialized "java/lang/IndexOutOfBoundsException", Cond.fieldLink RX2 20 "OrderedVersions" "versionTaken" "[Z", Cond.fieldLink RX2 16 "OrderedVersions" "versions" "[LOrderedVersions$Table;", Cond.methodLink RX2 162 yX2_isTaken, Cond.static yX2_isTaken, Cond.code yX2_isTaken cX2_isTaken 2 (some .boolean), Cond.methodLink RX2 34 yX1_countBelow, Cond.instanceMethod yX1_countBelow, Cond.selects RX1 yX1_countBelow yX1_countBelow]
def wsL_get_r2 : List Cond := [Cond.initialized RX1, Cond.code yX1_countBelow cX1_countBelow 3 (some .int), Cond.fieldLink RX1 18 "OrderedVersions$Table" "count" "I", Cond.fieldLink RX1 9 "OrderedVersions$Table" "keys" "[I", Cond.methodLink RX2 38 yX1_hasAt, Cond.instanceMethod yX1_hasAt, Cond.selects RX1 yX1_hasAt yX1_hasAt, Cond.code yX1_hasAt cX1_hasAt 3 (some .boolean), Cond.methodLink RX1 22 yX1_isWithin, Cond.instanceMethod yX1_isWithin, Cond.selects RX1 yX1_isWithin yX1_isWithin, Cond.code yX1_isWithin cX1_isWithin 2 (some .boolean)]
def wsL_get : List Cond := .codeWith yL_get cL_get 5 (some .int) [(0, 10, 13, 30), (0, 10, 17, 19)] :: ((wsL_get_r1 ++ wsL_get_r2) ++ wsX10 ++ wsX20 ++ (vx_at0 RX2 59 "java/util/NoSuchElementException" ["java/lang/RuntimeException", "java/lang/Exception"]).filter goodWord ++ (vx_at0 RX2 168 "java/lang/IndexOutOfBoundsException" ["java/lang/RuntimeException", "java/lang/Exception"]).filter goodWord)
def wsL_rank : List Cond := .codeWith yL_rank cL_rank 5 (some .int) [(0, 10, 13, 30)] :: ([.classLink RL 30 "java/lang/IndexOutOfBoundsException", .methodLink RL 49 yX2_rank, .instanceMethod yX2_rank, .selects RX2 yX2_rank yX2_rank, .initialized RX2, .code yX2_rank cX2_rank 3 (some .int), .methodLink RX2 78 yX2_mapOf, .instanceMethod yX2_mapOf, .selects RX2 yX2_mapOf yX2_mapOf, .code yX2_mapOf cX2_mapOf 2 (some (.object "OrderedVersions$Table")), .classLink RX2 166 "java/lang/IndexOutOfBoundsException", .initialized "java/lang/IndexOutOfBoundsException", .fieldLink RX2 20 "OrderedVersions" "versionTaken" "[Z", .fieldLink RX2 16 "OrderedVersions" "versions" "[LOrderedVersions$Table;", .methodLink RX2 162 yX2_isTaken, .static yX2_isTaken, .code yX2_isTaken cX2_isTaken 2 (some .boolean), .methodLink RX2 34 yX1_countBelow, .instanceMethod yX1_countBelow, .selects RX1 yX1_countBelow yX1_countBelow, .initialized RX1, .code yX1_countBelow cX1_countBelow 3 (some .int), .fieldLink RX1 18 "OrderedVersions$Table" "count" "I", .fieldLink RX1 9 "OrderedVersions$Table" "keys" "[I"] ++ wsX20 ++ wsX10 ++ (vx_at0 RX2 168 "java/lang/IndexOutOfBoundsException" ["java/lang/RuntimeException", "java/lang/Exception"]).filter goodWord)
def wsL_select_r1 : List Cond := [Cond.classLink RL 30 "java/lang/IndexOutOfBoundsException", Cond.classLink RL 19 "java/util/NoSuchElementException", Cond.methodLink RL 52 yX2_select, Cond.instanceMethod yX2_select, Cond.selects RX2 yX2_select yX2_select, Cond.initialized RX2, Cond.code yX2_select cX2_select 3 (some .int), Cond.methodLink RX2 78 yX2_mapOf, Cond.instanceMethod yX2_mapOf, Cond.selects RX2 yX2_mapOf yX2_mapOf, Cond.code yX2_mapOf cX2_mapOf 2 (some (.object "OrderedVersions$Table")), Cond.classLink RX2 166 "java/lang/IndexOutOfBoundsException", Cond.initialized "java/lang/IndexOutOfBoundsException", Cond.fieldLink RX2 20 "OrderedVersions" "versionTaken" "[Z", Cond.fieldLink RX2 16 "OrderedVersions" "versions" "[LOrderedVersions$Table;", Cond.methodLink RX2 162 yX2_isTaken, Cond.static yX2_isTaken, Cond.code yX2_isTaken cX2_isTaken 2 (some .boolean), Cond.methodLink RX2 104 yX2_keyAt, Cond.static yX2_keyAt, Cond.code yX2_keyAt cX2_keyAt 2 (some .int), Cond.classLink RX2 57 "java/util/NoSuchElementException", Cond.initialized "java/util/NoSuchElementException", Cond.fieldLink RX2 122 "OrderedVersions$Table" "keys" "[I"]
def wsL_select_r2 : List Cond := [Cond.methodLink RX2 150 yX1_isWithin, Cond.instanceMethod yX1_isWithin, Cond.selects RX1 yX1_isWithin yX1_isWithin, Cond.initialized RX1, Cond.code yX1_isWithin cX1_isWithin 2 (some .boolean), Cond.fieldLink RX1 18 "OrderedVersions$Table" "count" "I"]
def wsL_select : List Cond := .codeWith yL_select cL_select 5 (some .int) [(0, 10, 13, 30), (0, 10, 17, 19)] :: ((wsL_select_r1 ++ wsL_select_r2) ++ wsX20 ++ wsX10 ++ (vx_at0 RX2 168 "java/lang/IndexOutOfBoundsException" ["java/lang/RuntimeException", "java/lang/Exception"]).filter goodWord ++ (vx_at0 RX2 59 "java/util/NoSuchElementException" ["java/lang/RuntimeException", "java/lang/Exception"]).filter goodWord)
def wsL_near_r1 : List Cond := [Cond.classLink RL 30 "java/lang/IndexOutOfBoundsException", Cond.classLink RL 19 "java/util/NoSuchElementException", Cond.methodLink RL 55 yX2_near, Cond.instanceMethod yX2_near, Cond.selects RX2 yX2_near yX2_near, Cond.initialized RX2, Cond.code yX2_near cX2_near 5 (some .int), Cond.methodLink RX2 78 yX2_mapOf, Cond.instanceMethod yX2_mapOf, Cond.selects RX2 yX2_mapOf yX2_mapOf, Cond.code yX2_mapOf cX2_mapOf 2 (some (.object "OrderedVersions$Table")), Cond.classLink RX2 166 "java/lang/IndexOutOfBoundsException", Cond.initialized "java/lang/IndexOutOfBoundsException", Cond.fieldLink RX2 20 "OrderedVersions" "versionTaken" "[Z", Cond.fieldLink RX2 16 "OrderedVersions" "versions" "[LOrderedVersions$Table;", Cond.methodLink RX2 162 yX2_isTaken, Cond.static yX2_isTaken, Cond.code yX2_isTaken cX2_isTaken 2 (some .boolean), Cond.methodLink RX2 108 yX1_nearest, Cond.instanceMethod yX1_nearest, Cond.selects RX1 yX1_nearest yX1_nearest, Cond.initialized RX1, Cond.code yX1_nearest cX1_nearest 3 (some .int), Cond.methodLink RX1 26 yX1_countBelow]
def wsL_near_r2 : List Cond := [Cond.instanceMethod yX1_countBelow, Cond.selects RX1 yX1_countBelow yX1_countBelow, Cond.code yX1_countBelow cX1_countBelow 3 (some .int), Cond.fieldLink RX1 18 "OrderedVersions$Table" "count" "I", Cond.fieldLink RX1 9 "OrderedVersions$Table" "keys" "[I", Cond.methodLink RX1 34 yX1_countNotAbove, Cond.instanceMethod yX1_countNotAbove, Cond.selects RX1 yX1_countNotAbove yX1_countNotAbove, Cond.code yX1_countNotAbove cX1_countNotAbove 3 (some .int), Cond.methodLink RX1 30 yX1_hasAt, Cond.instanceMethod yX1_hasAt, Cond.selects RX1 yX1_hasAt yX1_hasAt, Cond.code yX1_hasAt cX1_hasAt 3 (some .boolean), Cond.methodLink RX1 22 yX1_isWithin, Cond.instanceMethod yX1_isWithin, Cond.selects RX1 yX1_isWithin yX1_isWithin, Cond.code yX1_isWithin cX1_isWithin 2 (some .boolean), Cond.methodLink RX2 104 yX2_keyAt, Cond.static yX2_keyAt, Cond.code yX2_keyAt cX2_keyAt 2 (some .int), Cond.classLink RX2 57 "java/util/NoSuchElementException", Cond.initialized "java/util/NoSuchElementException", Cond.fieldLink RX2 122 "OrderedVersions$Table" "keys" "[I", Cond.methodLink RX2 150 yX1_isWithin]
def wsL_near : List Cond := .codeWith yL_near cL_near 6 (some .int) [(0, 12, 15, 30), (0, 12, 19, 19)] :: ((wsL_near_r1 ++ wsL_near_r2) ++ wsX20 ++ wsX10 ++ (vx_at0 RX2 168 "java/lang/IndexOutOfBoundsException" ["java/lang/RuntimeException", "java/lang/Exception"]).filter goodWord ++ (vx_at0 RX2 59 "java/util/NoSuchElementException" ["java/lang/RuntimeException", "java/lang/Exception"]).filter goodWord)
def wsL_sum_r1 : List Cond := [Cond.classLink RL 30 "java/lang/IndexOutOfBoundsException", Cond.methodLink RL 59 yX2_sum, Cond.instanceMethod yX2_sum, Cond.selects RX2 yX2_sum yX2_sum, Cond.initialized RX2, Cond.code yX2_sum cX2_sum 9 (some .long), Cond.fieldLink RX2 42 "OrderedVersions$Table" "values" "[I", Cond.methodLink RX2 78 yX2_mapOf, Cond.instanceMethod yX2_mapOf, Cond.selects RX2 yX2_mapOf yX2_mapOf, Cond.code yX2_mapOf cX2_mapOf 2 (some (.object "OrderedVersions$Table")), Cond.classLink RX2 166 "java/lang/IndexOutOfBoundsException", Cond.initialized "java/lang/IndexOutOfBoundsException", Cond.fieldLink RX2 20 "OrderedVersions" "versionTaken" "[Z", Cond.fieldLink RX2 16 "OrderedVersions" "versions" "[LOrderedVersions$Table;", Cond.methodLink RX2 162 yX2_isTaken, Cond.static yX2_isTaken, Cond.code yX2_isTaken cX2_isTaken 2 (some .boolean), Cond.methodLink RX2 75 yX1_countNotAbove, Cond.instanceMethod yX1_countNotAbove, Cond.selects RX1 yX1_countNotAbove yX1_countNotAbove, Cond.initialized RX1, Cond.code yX1_countNotAbove cX1_countNotAbove 3 (some .int), Cond.methodLink RX1 26 yX1_countBelow]
def wsL_sum_r2 : List Cond := [Cond.instanceMethod yX1_countBelow, Cond.selects RX1 yX1_countBelow yX1_countBelow, Cond.code yX1_countBelow cX1_countBelow 3 (some .int), Cond.fieldLink RX1 18 "OrderedVersions$Table" "count" "I", Cond.fieldLink RX1 9 "OrderedVersions$Table" "keys" "[I", Cond.methodLink RX1 30 yX1_hasAt, Cond.instanceMethod yX1_hasAt, Cond.selects RX1 yX1_hasAt yX1_hasAt, Cond.code yX1_hasAt cX1_hasAt 3 (some .boolean), Cond.methodLink RX1 22 yX1_isWithin, Cond.instanceMethod yX1_isWithin, Cond.selects RX1 yX1_isWithin yX1_isWithin, Cond.code yX1_isWithin cX1_isWithin 2 (some .boolean), Cond.methodLink RX2 34 yX1_countBelow]
def wsL_sum : List Cond := .codeWith yL_sum cL_sum 6 (some .int) [(0, 11, 14, 30)] :: ((wsL_sum_r1 ++ wsL_sum_r2) ++ wsX10 ++ wsX20 ++ (vx_at0 RX2 168 "java/lang/IndexOutOfBoundsException" ["java/lang/RuntimeException", "java/lang/Exception"]).filter goodWord)
def wsL_greatest_r1 : List Cond := [Cond.classLink RL 30 "java/lang/IndexOutOfBoundsException", Cond.classLink RL 19 "java/util/NoSuchElementException", Cond.methodLink RL 63 yX2_greatest, Cond.instanceMethod yX2_greatest, Cond.selects RX2 yX2_greatest yX2_greatest, Cond.initialized RX2, Cond.code yX2_greatest cX2_greatest 9 (some .int), Cond.classLink RX2 57 "java/util/NoSuchElementException", Cond.initialized "java/util/NoSuchElementException", Cond.fieldLink RX2 42 "OrderedVersions$Table" "values" "[I", Cond.methodLink RX2 112 Lib.Math.max.name, Cond.static Lib.Math.max.name, Cond.initialized "java/lang/Math", Cond.code Lib.Math.max.name Lib.Math.max.code 2 (some .int), Cond.methodLink RX2 78 yX2_mapOf, Cond.instanceMethod yX2_mapOf, Cond.selects RX2 yX2_mapOf yX2_mapOf, Cond.code yX2_mapOf cX2_mapOf 2 (some (.object "OrderedVersions$Table")), Cond.classLink RX2 166 "java/lang/IndexOutOfBoundsException", Cond.initialized "java/lang/IndexOutOfBoundsException", Cond.fieldLink RX2 20 "OrderedVersions" "versionTaken" "[Z", Cond.fieldLink RX2 16 "OrderedVersions" "versions" "[LOrderedVersions$Table;", Cond.methodLink RX2 162 yX2_isTaken, Cond.static yX2_isTaken]
def wsL_greatest_r2 : List Cond := [Cond.code yX2_isTaken cX2_isTaken 2 (some .boolean), Cond.methodLink RX2 34 yX1_countBelow, Cond.instanceMethod yX1_countBelow, Cond.selects RX1 yX1_countBelow yX1_countBelow, Cond.initialized RX1, Cond.code yX1_countBelow cX1_countBelow 3 (some .int), Cond.fieldLink RX1 18 "OrderedVersions$Table" "count" "I", Cond.fieldLink RX1 9 "OrderedVersions$Table" "keys" "[I", Cond.methodLink RX2 75 yX1_countNotAbove, Cond.instanceMethod yX1_countNotAbove, Cond.selects RX1 yX1_countNotAbove yX1_countNotAbove, Cond.code yX1_countNotAbove cX1_countNotAbove 3 (some .int), Cond.methodLink RX1 26 yX1_countBelow, Cond.methodLink RX1 30 yX1_hasAt, Cond.instanceMethod yX1_hasAt, Cond.selects RX1 yX1_hasAt yX1_hasAt, Cond.code yX1_hasAt cX1_hasAt 3 (some .boolean), Cond.methodLink RX1 22 yX1_isWithin, Cond.instanceMethod yX1_isWithin, Cond.selects RX1 yX1_isWithin yX1_isWithin, Cond.code yX1_isWithin cX1_isWithin 2 (some .boolean)]
def wsL_greatest : List Cond := .codeWith yL_greatest cL_greatest 6 (some .int) [(0, 12, 15, 30), (0, 12, 19, 19)] :: ((wsL_greatest_r1 ++ wsL_greatest_r2) ++ wsX10 ++ wsX20 ++ (vx_at0 RX2 59 "java/util/NoSuchElementException" ["java/lang/RuntimeException", "java/lang/Exception"]).filter goodWord ++ (vx_at0 RX2 168 "java/lang/IndexOutOfBoundsException" ["java/lang/RuntimeException", "java/lang/Exception"]).filter goodWord)
def wsL_differs_r1 : List Cond := [Cond.classLink RL 30 "java/lang/IndexOutOfBoundsException", Cond.methodLink RL 67 yX2_differs, Cond.instanceMethod yX2_differs, Cond.selects RX2 yX2_differs yX2_differs, Cond.initialized RX2, Cond.code yX2_differs cX2_differs 5 (some .int), Cond.fieldLink RX2 46 "OrderedVersions$Table" "count" "I", Cond.methodLink RX2 78 yX2_mapOf, Cond.instanceMethod yX2_mapOf, Cond.selects RX2 yX2_mapOf yX2_mapOf, Cond.code yX2_mapOf cX2_mapOf 2 (some (.object "OrderedVersions$Table")), Cond.classLink RX2 166 "java/lang/IndexOutOfBoundsException", Cond.initialized "java/lang/IndexOutOfBoundsException", Cond.fieldLink RX2 20 "OrderedVersions" "versionTaken" "[Z", Cond.fieldLink RX2 16 "OrderedVersions" "versions" "[LOrderedVersions$Table;", Cond.methodLink RX2 162 yX2_isTaken, Cond.static yX2_isTaken, Cond.code yX2_isTaken cX2_isTaken 2 (some .boolean), Cond.methodLink RX2 82 yX1_countShared, Cond.instanceMethod yX1_countShared, Cond.selects RX1 yX1_countShared yX1_countShared, Cond.initialized RX1, Cond.code yX1_countShared cX1_countShared 6 (some .int), Cond.fieldLink RX1 18 "OrderedVersions$Table" "count" "I"]
def wsL_differs_r2 : List Cond := [Cond.fieldLink RX1 9 "OrderedVersions$Table" "keys" "[I", Cond.fieldLink RX1 15 "OrderedVersions$Table" "values" "[I", Cond.methodLink RX1 30 yX1_hasAt, Cond.instanceMethod yX1_hasAt, Cond.selects RX1 yX1_hasAt yX1_hasAt, Cond.code yX1_hasAt cX1_hasAt 3 (some .boolean), Cond.methodLink RX1 22 yX1_isWithin, Cond.instanceMethod yX1_isWithin, Cond.selects RX1 yX1_isWithin yX1_isWithin, Cond.code yX1_isWithin cX1_isWithin 2 (some .boolean)]
def wsL_differs : List Cond := .codeWith yL_differs cL_differs 5 (some .int) [(0, 10, 13, 30)] :: ((wsL_differs_r1 ++ wsL_differs_r2) ++ wsX10 ++ wsX20 ++ (vx_at0 RX2 168 "java/lang/IndexOutOfBoundsException" ["java/lang/RuntimeException", "java/lang/Exception"]).filter goodWord)
def wsL_firstDifference_r1 : List Cond := [Cond.classLink RL 30 "java/lang/IndexOutOfBoundsException", Cond.classLink RL 19 "java/util/NoSuchElementException", Cond.methodLink RL 70 yX2_firstDifference, Cond.instanceMethod yX2_firstDifference, Cond.selects RX2 yX2_firstDifference yX2_firstDifference, Cond.initialized RX2, Cond.code yX2_firstDifference cX2_firstDifference 6 (some .int), Cond.fieldLink RX2 46 "OrderedVersions$Table" "count" "I", Cond.fieldLink RX2 122 "OrderedVersions$Table" "keys" "[I", Cond.methodLink RX2 125 Lib.Math.min.name, Cond.static Lib.Math.min.name, Cond.initialized "java/lang/Math", Cond.code Lib.Math.min.name Lib.Math.min.code 2 (some .int), Cond.methodLink RX2 78 yX2_mapOf, Cond.instanceMethod yX2_mapOf, Cond.selects RX2 yX2_mapOf yX2_mapOf, Cond.code yX2_mapOf cX2_mapOf 2 (some (.object "OrderedVersions$Table")), Cond.classLink RX2 166 "java/lang/IndexOutOfBoundsException", Cond.initialized "java/lang/IndexOutOfBoundsException", Cond.fieldLink RX2 20 "OrderedVersions" "versionTaken" "[Z", Cond.fieldLink RX2 16 "OrderedVersions" "versions" "[LOrderedVersions$Table;", Cond.methodLink RX2 162 yX2_isTaken, Cond.static yX2_isTaken, Cond.code yX2_isTaken cX2_isTaken 2 (some .boolean)]
def wsL_firstDifference_r2 : List Cond := [Cond.methodLink RX2 118 yX1_countAlikeAtStart, Cond.instanceMethod yX1_countAlikeAtStart, Cond.selects RX1 yX1_countAlikeAtStart yX1_countAlikeAtStart, Cond.initialized RX1, Cond.code yX1_countAlikeAtStart cX1_countAlikeAtStart 4 (some .int), Cond.fieldLink RX1 18 "OrderedVersions$Table" "count" "I", Cond.methodLink RX1 43 Lib.Math.min.name, Cond.fieldLink RX1 9 "OrderedVersions$Table" "keys" "[I", Cond.fieldLink RX1 15 "OrderedVersions$Table" "values" "[I", Cond.methodLink RX2 104 yX2_keyAt, Cond.static yX2_keyAt, Cond.code yX2_keyAt cX2_keyAt 2 (some .int), Cond.classLink RX2 57 "java/util/NoSuchElementException", Cond.initialized "java/util/NoSuchElementException", Cond.methodLink RX2 150 yX1_isWithin, Cond.instanceMethod yX1_isWithin, Cond.selects RX1 yX1_isWithin yX1_isWithin, Cond.code yX1_isWithin cX1_isWithin 2 (some .boolean)]
def wsL_firstDifference : List Cond := .codeWith yL_firstDifference cL_firstDifference 5 (some .int) [(0, 10, 13, 30), (0, 10, 17, 19)] :: ((wsL_firstDifference_r1 ++ wsL_firstDifference_r2) ++ wsX10 ++ wsX20 ++ (vx_at0 RX2 168 "java/lang/IndexOutOfBoundsException" ["java/lang/RuntimeException", "java/lang/Exception"]).filter goodWord ++ (vx_at0 RX2 59 "java/util/NoSuchElementException" ["java/lang/RuntimeException", "java/lang/Exception"]).filter goodWord)
def wsL_open_r1 : List Cond := [Cond.classLink RL 30 "java/lang/IndexOutOfBoundsException", Cond.classLink RL 13 "java/lang/UnsupportedOperationException", Cond.methodLink RL 73 yX2_open, Cond.instanceMethod yX2_open, Cond.selects RX2 yX2_open yX2_open, Cond.initialized RX2, Cond.code yX2_open cX2_open 6 (some .int), Cond.classLink RX2 50 "java/lang/UnsupportedOperationException", Cond.initialized "java/lang/UnsupportedOperationException", Cond.fieldLink RX2 30 "OrderedVersions" "cursorTaken" "[Z", Cond.fieldLink RX2 26 "OrderedVersions" "cursors" "[LOrderedVersions$Cursor;", Cond.methodLink RX2 78 yX2_mapOf, Cond.instanceMethod yX2_mapOf, Cond.selects RX2 yX2_mapOf yX2_mapOf, Cond.code yX2_mapOf cX2_mapOf 2 (some (.object "OrderedVersions$Table")), Cond.classLink RX2 166 "java/lang/IndexOutOfBoundsException", Cond.initialized "java/lang/IndexOutOfBoundsException", Cond.fieldLink RX2 20 "OrderedVersions" "versionTaken" "[Z", Cond.fieldLink RX2 16 "OrderedVersions" "versions" "[LOrderedVersions$Table;", Cond.methodLink RX2 162 yX2_isTaken, Cond.static yX2_isTaken, Cond.code yX2_isTaken cX2_isTaken 2 (some .boolean), Cond.methodLink RX2 90 yX2_leastFree, Cond.static yX2_leastFree]
def wsL_open_r2 : List Cond := [Cond.code yX2_leastFree cX2_leastFree 3 (some .int), Cond.methodLink RX2 128 yX0_start, Cond.instanceMethod yX0_start, Cond.selects RX0 yX0_start yX0_start, Cond.initialized RX0, Cond.code yX0_start cX0_start 4 none, Cond.fieldLink RX0 10 "OrderedVersions$Cursor" "map" "LOrderedVersions$Table;", Cond.fieldLink RX0 20 "OrderedVersions$Cursor" "down" "Z", Cond.fieldLink RX0 28 "OrderedVersions$Cursor" "at" "I", Cond.methodLink RX0 16 yX1_copyFrom, Cond.instanceMethod yX1_copyFrom, Cond.selects RX1 yX1_copyFrom yX1_copyFrom, Cond.initialized RX1, Cond.code yX1_copyFrom cX1_copyFrom 2 none, Cond.fieldLink RX1 9 "OrderedVersions$Table" "keys" "[I", Cond.fieldLink RX1 18 "OrderedVersions$Table" "count" "I", Cond.methodLink RX1 37 arraycopyName, Cond.native arraycopyName, Cond.static arraycopyName, Cond.initialized "java/lang/System", Cond.fieldLink RX1 15 "OrderedVersions$Table" "values" "[I", Cond.methodLink RX0 24 yX1_nearest, Cond.instanceMethod yX1_nearest, Cond.selects RX1 yX1_nearest yX1_nearest]
def wsL_open_r3 : List Cond := [Cond.code yX1_nearest cX1_nearest 3 (some .int), Cond.methodLink RX1 26 yX1_countBelow, Cond.instanceMethod yX1_countBelow, Cond.selects RX1 yX1_countBelow yX1_countBelow, Cond.code yX1_countBelow cX1_countBelow 3 (some .int), Cond.methodLink RX1 34 yX1_countNotAbove, Cond.instanceMethod yX1_countNotAbove, Cond.selects RX1 yX1_countNotAbove yX1_countNotAbove, Cond.code yX1_countNotAbove cX1_countNotAbove 3 (some .int), Cond.methodLink RX1 30 yX1_hasAt, Cond.instanceMethod yX1_hasAt, Cond.selects RX1 yX1_hasAt yX1_hasAt, Cond.code yX1_hasAt cX1_hasAt 3 (some .boolean), Cond.methodLink RX1 22 yX1_isWithin, Cond.instanceMethod yX1_isWithin, Cond.selects RX1 yX1_isWithin yX1_isWithin, Cond.code yX1_isWithin cX1_isWithin 2 (some .boolean)]
def wsL_open : List Cond := .codeWith yL_open cL_open 6 (some .int) [(0, 12, 15, 30), (0, 12, 19, 13)] :: ((wsL_open_r1 ++ (wsL_open_r2 ++ wsL_open_r3)) ++ wsX20 ++ wsX00 ++ wsX10 ++ (vx_at0 RX2 52 "java/lang/UnsupportedOperationException" ["java/lang/RuntimeException", "java/lang/Exception"]).filter goodWord ++ (vx_at0 RX2 168 "java/lang/IndexOutOfBoundsException" ["java/lang/RuntimeException", "java/lang/Exception"]).filter goodWord)
def wsL_next_r1 : List Cond := [Cond.classLink RL 30 "java/lang/IndexOutOfBoundsException", Cond.classLink RL 19 "java/util/NoSuchElementException", Cond.methodLink RL 76 yX2_next, Cond.instanceMethod yX2_next, Cond.selects RX2 yX2_next yX2_next, Cond.initialized RX2, Cond.code yX2_next cX2_next 4 (some .int), Cond.fieldLink RX2 136 "OrderedVersions$Cursor" "map" "LOrderedVersions$Table;", Cond.fieldLink RX2 139 "OrderedVersions$Cursor" "at" "I", Cond.methodLink RX2 132 yX2_cursorOf, Cond.instanceMethod yX2_cursorOf, Cond.selects RX2 yX2_cursorOf yX2_cursorOf, Cond.code yX2_cursorOf cX2_cursorOf 2 (some (.object "OrderedVersions$Cursor")), Cond.classLink RX2 166 "java/lang/IndexOutOfBoundsException", Cond.initialized "java/lang/IndexOutOfBoundsException", Cond.fieldLink RX2 30 "OrderedVersions" "cursorTaken" "[Z", Cond.fieldLink RX2 26 "OrderedVersions" "cursors" "[LOrderedVersions$Cursor;", Cond.methodLink RX2 162 yX2_isTaken, Cond.static yX2_isTaken, Cond.code yX2_isTaken cX2_isTaken 2 (some .boolean), Cond.methodLink RX2 104 yX2_keyAt, Cond.static yX2_keyAt, Cond.code yX2_keyAt cX2_keyAt 2 (some .int), Cond.classLink RX2 57 "java/util/NoSuchElementException"]
def wsL_next_r2 : List Cond := [Cond.initialized "java/util/NoSuchElementException", Cond.fieldLink RX2 122 "OrderedVersions$Table" "keys" "[I", Cond.methodLink RX2 150 yX1_isWithin, Cond.instanceMethod yX1_isWithin, Cond.selects RX1 yX1_isWithin yX1_isWithin, Cond.initialized RX1, Cond.code yX1_isWithin cX1_isWithin 2 (some .boolean), Cond.fieldLink RX1 18 "OrderedVersions$Table" "count" "I", Cond.methodLink RX2 142 yX0_goOver, Cond.instanceMethod yX0_goOver, Cond.selects RX0 yX0_goOver yX0_goOver, Cond.initialized RX0, Cond.code yX0_goOver cX0_goOver 2 none, Cond.fieldLink RX0 28 "OrderedVersions$Cursor" "at" "I", Cond.fieldLink RX0 20 "OrderedVersions$Cursor" "down" "Z"]
def wsL_next : List Cond := .codeWith yL_next cL_next 4 (some .int) [(0, 9, 12, 30), (0, 9, 15, 19)] :: ((wsL_next_r1 ++ wsL_next_r2) ++ wsX00 ++ wsX20 ++ wsX10 ++ (vx_at0 RX2 168 "java/lang/IndexOutOfBoundsException" ["java/lang/RuntimeException", "java/lang/Exception"]).filter goodWord ++ (vx_at0 RX2 59 "java/util/NoSuchElementException" ["java/lang/RuntimeException", "java/lang/Exception"]).filter goodWord)
def wsL_skip_r1 : List Cond := [Cond.classLink RL 30 "java/lang/IndexOutOfBoundsException", Cond.classLink RL 25 "java/lang/IllegalArgumentException", Cond.methodLink RL 79 yX2_skip, Cond.instanceMethod yX2_skip, Cond.selects RX2 yX2_skip yX2_skip, Cond.initialized RX2, Cond.code yX2_skip cX2_skip 5 (some .int), Cond.classLink RX2 64 "java/lang/IllegalArgumentException", Cond.initialized "java/lang/IllegalArgumentException", Cond.methodLink RX2 125 Lib.Math.min.name, Cond.static Lib.Math.min.name, Cond.initialized "java/lang/Math", Cond.code Lib.Math.min.name Lib.Math.min.code 2 (some .int), Cond.methodLink RX2 132 yX2_cursorOf, Cond.instanceMethod yX2_cursorOf, Cond.selects RX2 yX2_cursorOf yX2_cursorOf, Cond.code yX2_cursorOf cX2_cursorOf 2 (some (.object "OrderedVersions$Cursor")), Cond.classLink RX2 166 "java/lang/IndexOutOfBoundsException", Cond.initialized "java/lang/IndexOutOfBoundsException", Cond.fieldLink RX2 30 "OrderedVersions" "cursorTaken" "[Z", Cond.fieldLink RX2 26 "OrderedVersions" "cursors" "[LOrderedVersions$Cursor;", Cond.methodLink RX2 162 yX2_isTaken, Cond.static yX2_isTaken, Cond.code yX2_isTaken cX2_isTaken 2 (some .boolean)]
def wsL_skip_r2 : List Cond := [Cond.methodLink RX2 146 yX0_countLeft, Cond.instanceMethod yX0_countLeft, Cond.selects RX0 yX0_countLeft yX0_countLeft, Cond.initialized RX0, Cond.code yX0_countLeft cX0_countLeft 1 (some .int), Cond.fieldLink RX0 20 "OrderedVersions$Cursor" "down" "Z", Cond.fieldLink RX0 28 "OrderedVersions$Cursor" "at" "I", Cond.fieldLink RX0 10 "OrderedVersions$Cursor" "map" "LOrderedVersions$Table;", Cond.fieldLink RX0 32 "OrderedVersions$Table" "count" "I", Cond.methodLink RX2 142 yX0_goOver, Cond.instanceMethod yX0_goOver, Cond.selects RX0 yX0_goOver yX0_goOver, Cond.code yX0_goOver cX0_goOver 2 none]
def wsL_skip : List Cond := .codeWith yL_skip cL_skip 5 (some .int) [(0, 10, 13, 30), (0, 10, 17, 25)] :: ((wsL_skip_r1 ++ wsL_skip_r2) ++ wsX20 ++ wsX00 ++ wsX10 ++ (vx_at0 RX2 66 "java/lang/IllegalArgumentException" ["java/lang/RuntimeException", "java/lang/Exception"]).filter goodWord ++ (vx_at0 RX2 168 "java/lang/IndexOutOfBoundsException" ["java/lang/RuntimeException", "java/lang/Exception"]).filter goodWord)
def wsL_peek_r1 : List Cond := [Cond.classLink RL 30 "java/lang/IndexOutOfBoundsException", Cond.classLink RL 19 "java/util/NoSuchElementException", Cond.methodLink RL 82 yX2_peek, Cond.instanceMethod yX2_peek, Cond.selects RX2 yX2_peek yX2_peek, Cond.initialized RX2, Cond.code yX2_peek cX2_peek 3 (some .int), Cond.classLink RX2 57 "java/util/NoSuchElementException", Cond.initialized "java/util/NoSuchElementException", Cond.fieldLink RX2 136 "OrderedVersions$Cursor" "map" "LOrderedVersions$Table;", Cond.fieldLink RX2 139 "OrderedVersions$Cursor" "at" "I", Cond.fieldLink RX2 42 "OrderedVersions$Table" "values" "[I", Cond.methodLink RX2 132 yX2_cursorOf, Cond.instanceMethod yX2_cursorOf, Cond.selects RX2 yX2_cursorOf yX2_cursorOf, Cond.code yX2_cursorOf cX2_cursorOf 2 (some (.object "OrderedVersions$Cursor")), Cond.classLink RX2 166 "java/lang/IndexOutOfBoundsException", Cond.initialized "java/lang/IndexOutOfBoundsException", Cond.fieldLink RX2 30 "OrderedVersions" "cursorTaken" "[Z", Cond.fieldLink RX2 26 "OrderedVersions" "cursors" "[LOrderedVersions$Cursor;", Cond.methodLink RX2 162 yX2_isTaken, Cond.static yX2_isTaken, Cond.code yX2_isTaken cX2_isTaken 2 (some .boolean), Cond.methodLink RX2 150 yX1_isWithin]
def wsL_peek_r2 : List Cond := [Cond.instanceMethod yX1_isWithin, Cond.selects RX1 yX1_isWithin yX1_isWithin, Cond.initialized RX1, Cond.code yX1_isWithin cX1_isWithin 2 (some .boolean), Cond.fieldLink RX1 18 "OrderedVersions$Table" "count" "I"]
def wsL_peek : List Cond := .codeWith yL_peek cL_peek 4 (some .int) [(0, 9, 12, 30), (0, 9, 15, 19)] :: ((wsL_peek_r1 ++ wsL_peek_r2) ++ wsX00 ++ wsX10 ++ wsX20 ++ (vx_at0 RX2 59 "java/util/NoSuchElementException" ["java/lang/RuntimeException", "java/lang/Exception"]).filter goodWord ++ (vx_at0 RX2 168 "java/lang/IndexOutOfBoundsException" ["java/lang/RuntimeException", "java/lang/Exception"]).filter goodWord)
def wsL_close_r1 : List Cond := [Cond.classLink RL 30 "java/lang/IndexOutOfBoundsException", Cond.methodLink RL 85 yX2_close, Cond.instanceMethod yX2_close, Cond.selects RX2 yX2_close yX2_close, Cond.initialized RX2, Cond.code yX2_close cX2_close 2 (some .int), Cond.fieldLink RX2 30 "OrderedVersions" "cursorTaken" "[Z", Cond.methodLink RX2 132 yX2_cursorOf, Cond.instanceMethod yX2_cursorOf, Cond.selects RX2 yX2_cursorOf yX2_cursorOf, Cond.code yX2_cursorOf cX2_cursorOf 2 (some (.object "OrderedVersions$Cursor")), Cond.classLink RX2 166 "java/lang/IndexOutOfBoundsException", Cond.initialized "java/lang/IndexOutOfBoundsException", Cond.fieldLink RX2 26 "OrderedVersions" "cursors" "[LOrderedVersions$Cursor;", Cond.methodLink RX2 162 yX2_isTaken, Cond.static yX2_isTaken, Cond.code yX2_isTaken cX2_isTaken 2 (some .boolean), Cond.methodLink RX2 154 yX0_stop, Cond.instanceMethod yX0_stop, Cond.selects RX0 yX0_stop yX0_stop, Cond.initialized RX0, Cond.code yX0_stop cX0_stop 1 none, Cond.fieldLink RX0 10 "OrderedVersions$Cursor" "map" "LOrderedVersions$Table;", Cond.fieldLink RX0 32 "OrderedVersions$Table" "count" "I"]
def wsL_close_r2 : List Cond := [Cond.fieldLink RX0 28 "OrderedVersions$Cursor" "at" "I", Cond.methodLink RX2 101 yX2_countTaken, Cond.static yX2_countTaken, Cond.code yX2_countTaken cX2_countTaken 4 (some .int)]
def wsL_close : List Cond := .codeWith yL_close cL_close 4 (some .int) [(0, 9, 12, 30)] :: ((wsL_close_r1 ++ wsL_close_r2) ++ wsX20 ++ wsX00 ++ wsX10 ++ (vx_at0 RX2 168 "java/lang/IndexOutOfBoundsException" ["java/lang/RuntimeException", "java/lang/Exception"]).filter goodWord)
def wsL_law0_r1 : List Cond := [Cond.classLink RL 8 RX2, Cond.instantiable RX2 5, Cond.initialized RX2, Cond.classLink RL 89 RX3, Cond.instantiable RX3 7, Cond.initialized RX3, Cond.arrayClass .long, Cond.methodLink RL 88 yX2_init, Cond.instanceMethod yX2_init, Cond.code yX2_init cX2_init 2 none, Cond.methodLink RX2 1 objectInit, Cond.instanceMethod objectInit, Cond.code objectInit ⟨#[0xb1]⟩ 1 none, Cond.classLink RX2 7 RX1, Cond.instantiable RX1 3, Cond.initialized RX1, Cond.fieldLink RX2 10 "OrderedVersions" "present" "LOrderedVersions$Table;", Cond.fieldLink RX2 16 "OrderedVersions" "versions" "[LOrderedVersions$Table;", Cond.arrayClass .boolean, Cond.fieldLink RX2 20 "OrderedVersions" "versionTaken" "[Z", Cond.classLink RX2 24 RX0, Cond.fieldLink RX2 26 "OrderedVersions" "cursors" "[LOrderedVersions$Cursor;", Cond.fieldLink RX2 30 "OrderedVersions" "cursorTaken" "[Z", Cond.instantiable RX0 3]
def wsL_law0_r2 : List Cond := [Cond.initialized RX0, Cond.instanceMethod yX1_init, Cond.code yX1_init cX1_init 1 none, Cond.methodLink RX1 3 objectInit, Cond.arrayClass .int, Cond.fieldLink RX1 9 "OrderedVersions$Table" "keys" "[I", Cond.fieldLink RX1 15 "OrderedVersions$Table" "values" "[I", Cond.instanceMethod yX0_init, Cond.code yX0_init cX0_init 1 none, Cond.methodLink RX0 1 objectInit, Cond.classLink RX0 7 RX1, Cond.fieldLink RX0 10 "OrderedVersions$Cursor" "map" "LOrderedVersions$Table;", Cond.methodLink RL 91 yX3_init, Cond.instanceMethod yX3_init, Cond.code yX3_init cX3_init 1 none, Cond.methodLink RX3 1 objectInit, Cond.fieldLink RX3 7 "OrderedVersionsModel" "keys" "[I", Cond.fieldLink RX3 13 "OrderedVersionsModel" "values" "[I", Cond.fieldLink RX3 16 "OrderedVersionsModel" "sizes" "[I", Cond.fieldLink RX3 19 "OrderedVersionsModel" "there" "[Z", Cond.fieldLink RX3 23 "OrderedVersionsModel" "places" "[I", Cond.fieldLink RX3 26 "OrderedVersionsModel" "downs" "[Z", Cond.methodLink RL 92 yL_put, Cond.static yL_put]
def wsL_law0_r3 : List Cond := [Cond.initialized RL, Cond.codeWith yL_put cL_put 5 (some .int) [(0, 17, 20, 13)], Cond.classLink RL 13 "java/lang/UnsupportedOperationException", Cond.methodLink RL 7 yX2_put, Cond.instanceMethod yX2_put, Cond.selects RX2 yX2_put yX2_put, Cond.code yX2_put cX2_put 4 (some .boolean), Cond.classLink RX2 50 "java/lang/UnsupportedOperationException", Cond.initialized "java/lang/UnsupportedOperationException", Cond.fieldLink RX2 42 "OrderedVersions$Table" "values" "[I", Cond.fieldLink RX2 46 "OrderedVersions$Table" "count" "I", Cond.methodLink RX2 34 yX1_countBelow, Cond.instanceMethod yX1_countBelow, Cond.selects RX1 yX1_countBelow yX1_countBelow, Cond.code yX1_countBelow cX1_countBelow 3 (some .int), Cond.fieldLink RX1 18 "OrderedVersions$Table" "count" "I", Cond.methodLink RX2 38 yX1_hasAt, Cond.instanceMethod yX1_hasAt, Cond.selects RX1 yX1_hasAt yX1_hasAt, Cond.code yX1_hasAt cX1_hasAt 3 (some .boolean), Cond.methodLink RX1 22 yX1_isWithin, Cond.instanceMethod yX1_isWithin, Cond.selects RX1 yX1_isWithin yX1_isWithin, Cond.code yX1_isWithin cX1_isWithin 2 (some .boolean)]
def wsL_law0_r4 : List Cond := [Cond.methodLink RX2 53 yX1_insertAt, Cond.instanceMethod yX1_insertAt, Cond.selects RX1 yX1_insertAt yX1_insertAt, Cond.code yX1_insertAt cX1_insertAt 4 none, Cond.methodLink RX1 37 arraycopyName, Cond.native arraycopyName, Cond.static arraycopyName, Cond.initialized "java/lang/System", Cond.methodLink RL 97 yX3_put, Cond.instanceMethod yX3_put, Cond.selects RX3 yX3_put yX3_put, Cond.code yX3_put cX3_put 4 (some .boolean), Cond.fieldLink RX3 29 "OrderedVersionsModel" "code" "I", Cond.methodLink RX3 37 yX3_has, Cond.instanceMethod yX3_has, Cond.selects RX3 yX3_has yX3_has, Cond.code yX3_has cX3_has 4 (some .boolean), Cond.methodLink RX3 33 yX3_below, Cond.instanceMethod yX3_below, Cond.selects RX3 yX3_below yX3_below, Cond.code yX3_below cX3_below 4 (some .int), Cond.methodLink RX3 45 yX3_insert, Cond.instanceMethod yX3_insert, Cond.selects RX3 yX3_insert yX3_insert]
def wsL_law0_r5 : List Cond := [Cond.code yX3_insert cX3_insert 5 none, Cond.methodLink RL 98 yX3_thrown, Cond.instanceMethod yX3_thrown, Cond.selects RX3 yX3_thrown yX3_thrown, Cond.code yX3_thrown cX3_thrown 1 (some .int), Cond.methodLink RL 101 yL_remove, Cond.static yL_remove, Cond.codeWith yL_remove cL_remove 4 (some .int) [(0, 9, 12, 19)], Cond.classLink RL 19 "java/util/NoSuchElementException", Cond.methodLink RL 15 yX2_remove, Cond.instanceMethod yX2_remove, Cond.selects RX2 yX2_remove yX2_remove, Cond.code yX2_remove cX2_remove 4 (some .int), Cond.classLink RX2 57 "java/util/NoSuchElementException", Cond.initialized "java/util/NoSuchElementException", Cond.methodLink RX2 60 yX1_dropBetween, Cond.instanceMethod yX1_dropBetween, Cond.selects RX1 yX1_dropBetween yX1_dropBetween, Cond.code yX1_dropBetween cX1_dropBetween 3 none, Cond.methodLink RL 104 yX3_remove, Cond.instanceMethod yX3_remove, Cond.selects RX3 yX3_remove yX3_remove, Cond.code yX3_remove cX3_remove 4 (some .int), Cond.methodLink RX3 49 yX3_takeOut]
def wsL_law0_r6 : List Cond := [Cond.instanceMethod yX3_takeOut, Cond.selects RX3 yX3_takeOut yX3_takeOut, Cond.code yX3_takeOut cX3_takeOut 4 none, Cond.methodLink RL 105 yL_load, Cond.static yL_load, Cond.codeWith yL_load cL_load 8 (some .int) [(0, 16, 19, 25)], Cond.classLink RL 25 "java/lang/IllegalArgumentException", Cond.methodLink RL 21 yX2_load, Cond.instanceMethod yX2_load, Cond.selects RX2 yX2_load yX2_load, Cond.code yX2_load cX2_load 9 (some .int), Cond.classLink RX2 64 "java/lang/IllegalArgumentException", Cond.initialized "java/lang/IllegalArgumentException", Cond.constantLong RX2 69 (2147483647), Cond.methodLink RX2 71 yX1_fill, Cond.instanceMethod yX1_fill, Cond.selects RX1 yX1_fill yX1_fill, Cond.code yX1_fill cX1_fill 8 none, Cond.methodLink RL 108 yX3_load, Cond.instanceMethod yX3_load, Cond.selects RX3 yX3_load yX3_load, Cond.code yX3_load cX3_load 9 (some .int), Cond.constantLong RX3 52 (2147483647), Cond.methodLink RL 109 yX2_cut]
def wsL_law0_r7 : List Cond := [Cond.instanceMethod yX2_cut, Cond.selects RX2 yX2_cut yX2_cut, Cond.code yX2_cut cX2_cut 5 (some .int), Cond.methodLink RX2 75 yX1_countNotAbove, Cond.instanceMethod yX1_countNotAbove, Cond.selects RX1 yX1_countNotAbove yX1_countNotAbove, Cond.code yX1_countNotAbove cX1_countNotAbove 3 (some .int), Cond.methodLink RX1 26 yX1_countBelow, Cond.methodLink RX1 30 yX1_hasAt, Cond.methodLink RL 112 yX3_cut, Cond.instanceMethod yX3_cut, Cond.selects RX3 yX3_cut yX3_cut, Cond.code yX3_cut cX3_cut 4 (some .int), Cond.methodLink RX3 57 yX3_many, Cond.instanceMethod yX3_many, Cond.selects RX3 yX3_many yX3_many, Cond.code yX3_many cX3_many 4 (some .int), Cond.methodLink RX3 54 yX3_upTo, Cond.instanceMethod yX3_upTo, Cond.selects RX3 yX3_upTo yX3_upTo, Cond.code yX3_upTo cX3_upTo 3 (some .int), Cond.methodLink RL 113 yL_merge, Cond.static yL_merge, Cond.codeWith yL_merge cL_merge 4 (some .int) [(0, 9, 12, 30), (0, 9, 15, 13)]]
def wsL_law0_r8 : List Cond := [Cond.classLink RL 30 "java/lang/IndexOutOfBoundsException", Cond.methodLink RL 27 yX2_merge, Cond.instanceMethod yX2_merge, Cond.selects RX2 yX2_merge yX2_merge, Cond.code yX2_merge cX2_merge 4 (some .int), Cond.methodLink RX2 78 yX2_mapOf, Cond.instanceMethod yX2_mapOf, Cond.selects RX2 yX2_mapOf yX2_mapOf, Cond.code yX2_mapOf cX2_mapOf 2 (some (.object "OrderedVersions$Table")), Cond.classLink RX2 166 "java/lang/IndexOutOfBoundsException", Cond.initialized "java/lang/IndexOutOfBoundsException", Cond.methodLink RX2 162 yX2_isTaken, Cond.static yX2_isTaken, Cond.code yX2_isTaken cX2_isTaken 2 (some .boolean), Cond.methodLink RX2 82 yX1_countShared, Cond.instanceMethod yX1_countShared, Cond.selects RX1 yX1_countShared yX1_countShared, Cond.code yX1_countShared cX1_countShared 6 (some .int), Cond.methodLink RX2 86 yX1_takeOver, Cond.instanceMethod yX1_takeOver, Cond.selects RX1 yX1_takeOver yX1_takeOver, Cond.code yX1_takeOver cX1_takeOver 7 none, Cond.methodLink RL 115 yX3_merge, Cond.instanceMethod yX3_merge]
def wsL_law0_r9 : List Cond := [Cond.selects RX3 yX3_merge yX3_merge, Cond.code yX3_merge cX3_merge 5 (some .int), Cond.methodLink RX3 41 yX3_isVersion, Cond.instanceMethod yX3_isVersion, Cond.selects RX3 yX3_isVersion yX3_isVersion, Cond.code yX3_isVersion cX3_isVersion 2 (some .boolean), Cond.methodLink RL 116 yL_snapshot, Cond.static yL_snapshot, Cond.codeWith yL_snapshot cL_snapshot 3 (some .int) [(0, 8, 11, 13)], Cond.methodLink RL 32 yX2_snapshot, Cond.instanceMethod yX2_snapshot, Cond.selects RX2 yX2_snapshot yX2_snapshot, Cond.code yX2_snapshot cX2_snapshot 2 (some .int), Cond.methodLink RX2 90 yX2_leastFree, Cond.static yX2_leastFree, Cond.code yX2_leastFree cX2_leastFree 3 (some .int), Cond.methodLink RX2 94 yX1_copyFrom, Cond.instanceMethod yX1_copyFrom, Cond.selects RX1 yX1_copyFrom yX1_copyFrom, Cond.code yX1_copyFrom cX1_copyFrom 2 none, Cond.methodLink RL 119 yX3_snapshot, Cond.instanceMethod yX3_snapshot, Cond.selects RX3 yX3_snapshot yX3_snapshot, Cond.code yX3_snapshot cX3_snapshot 2 (some .int)]
def wsL_law0_r10 : List Cond := [Cond.methodLink RX3 61 yX3_spare, Cond.instanceMethod yX3_spare, Cond.selects RX3 yX3_spare yX3_spare, Cond.code yX3_spare cX3_spare 5 (some .int), Cond.methodLink RX3 64 yX3_copy, Cond.instanceMethod yX3_copy, Cond.selects RX3 yX3_copy yX3_copy, Cond.code yX3_copy cX3_copy 4 none, Cond.methodLink RL 120 yL_release, Cond.static yL_release, Cond.codeWith yL_release cL_release 4 (some .int) [(0, 9, 12, 30)], Cond.methodLink RL 36 yX2_release, Cond.instanceMethod yX2_release, Cond.selects RX2 yX2_release yX2_release, Cond.code yX2_release cX2_release 2 (some .int), Cond.methodLink RX2 98 yX2_snapshotOf, Cond.instanceMethod yX2_snapshotOf, Cond.selects RX2 yX2_snapshotOf yX2_snapshotOf, Cond.code yX2_snapshotOf cX2_snapshotOf 2 (some (.object "OrderedVersions$Table")), Cond.methodLink RX2 101 yX2_countTaken, Cond.static yX2_countTaken, Cond.code yX2_countTaken cX2_countTaken 4 (some .int), Cond.methodLink RL 122 yX3_release, Cond.instanceMethod yX3_release]
def wsL_law0_r11 : List Cond := [Cond.selects RX3 yX3_release yX3_release, Cond.code yX3_release cX3_release 4 (some .int), Cond.methodLink RX3 67 yX3_isSnapshot, Cond.instanceMethod yX3_isSnapshot, Cond.selects RX3 yX3_isSnapshot yX3_isSnapshot, Cond.code yX3_isSnapshot cX3_isSnapshot 2 (some .boolean), Cond.methodLink RL 123 yL_restore, Cond.static yL_restore, Cond.codeWith yL_restore cL_restore 4 (some .int) [(0, 9, 12, 30)], Cond.methodLink RL 39 yX2_restore, Cond.instanceMethod yX2_restore, Cond.selects RX2 yX2_restore yX2_restore, Cond.code yX2_restore cX2_restore 2 (some .int), Cond.methodLink RL 125 yX3_restore, Cond.instanceMethod yX3_restore, Cond.selects RX3 yX3_restore yX3_restore, Cond.code yX3_restore cX3_restore 2 (some .int), Cond.methodLink RL 126 yL_size, Cond.static yL_size, Cond.codeWith yL_size cL_size 4 (some .int) [(0, 9, 12, 30)], Cond.methodLink RL 42 yX2_size, Cond.instanceMethod yX2_size, Cond.selects RX2 yX2_size yX2_size, Cond.code yX2_size cX2_size 2 (some .int)]
def wsL_law0_r12 : List Cond := [Cond.methodLink RL 128 yX3_size, Cond.instanceMethod yX3_size, Cond.selects RX3 yX3_size yX3_size, Cond.code yX3_size cX3_size 2 (some .int), Cond.methodLink RL 129 yL_get, Cond.static yL_get, Cond.codeWith yL_get cL_get 5 (some .int) [(0, 10, 13, 30), (0, 10, 17, 19)], Cond.methodLink RL 45 yX2_get, Cond.instanceMethod yX2_get, Cond.selects RX2 yX2_get yX2_get, Cond.code yX2_get cX2_get 5 (some .int), Cond.methodLink RL 131 yX3_get, Cond.instanceMethod yX3_get, Cond.selects RX3 yX3_get yX3_get, Cond.code yX3_get cX3_get 3 (some .int), Cond.methodLink RL 132 yL_rank, Cond.static yL_rank, Cond.codeWith yL_rank cL_rank 5 (some .int) [(0, 10, 13, 30)], Cond.methodLink RL 49 yX2_rank, Cond.instanceMethod yX2_rank, Cond.selects RX2 yX2_rank yX2_rank, Cond.code yX2_rank cX2_rank 3 (some .int), Cond.methodLink RL 134 yX3_rank, Cond.instanceMethod yX3_rank]
def wsL_law0_r13 : List Cond := [Cond.selects RX3 yX3_rank yX3_rank, Cond.code yX3_rank cX3_rank 3 (some .int), Cond.methodLink RL 135 yL_select, Cond.static yL_select, Cond.codeWith yL_select cL_select 5 (some .int) [(0, 10, 13, 30), (0, 10, 17, 19)], Cond.methodLink RL 52 yX2_select, Cond.instanceMethod yX2_select, Cond.selects RX2 yX2_select yX2_select, Cond.code yX2_select cX2_select 3 (some .int), Cond.methodLink RX2 104 yX2_keyAt, Cond.static yX2_keyAt, Cond.code yX2_keyAt cX2_keyAt 2 (some .int), Cond.fieldLink RX2 122 "OrderedVersions$Table" "keys" "[I", Cond.methodLink RX2 150 yX1_isWithin, Cond.methodLink RL 137 yX3_select, Cond.instanceMethod yX3_select, Cond.selects RX3 yX3_select yX3_select, Cond.code yX3_select cX3_select 3 (some .int), Cond.methodLink RL 138 yL_near, Cond.static yL_near, Cond.codeWith yL_near cL_near 6 (some .int) [(0, 12, 15, 30), (0, 12, 19, 19)], Cond.methodLink RL 55 yX2_near, Cond.instanceMethod yX2_near, Cond.selects RX2 yX2_near yX2_near]
def wsL_law0_r14 : List Cond := [Cond.code yX2_near cX2_near 5 (some .int), Cond.methodLink RX2 108 yX1_nearest, Cond.instanceMethod yX1_nearest, Cond.selects RX1 yX1_nearest yX1_nearest, Cond.code yX1_nearest cX1_nearest 3 (some .int), Cond.methodLink RX1 34 yX1_countNotAbove, Cond.methodLink RL 141 yX3_near, Cond.instanceMethod yX3_near, Cond.selects RX3 yX3_near yX3_near, Cond.code yX3_near cX3_near 5 (some .int), Cond.methodLink RL 142 yL_sum, Cond.static yL_sum, Cond.codeWith yL_sum cL_sum 6 (some .int) [(0, 11, 14, 30)], Cond.methodLink RL 59 yX2_sum, Cond.instanceMethod yX2_sum, Cond.selects RX2 yX2_sum yX2_sum, Cond.code yX2_sum cX2_sum 9 (some .long), Cond.methodLink RL 145 yX3_sum, Cond.instanceMethod yX3_sum, Cond.selects RX3 yX3_sum yX3_sum, Cond.code yX3_sum cX3_sum 8 (some .long), Cond.methodLink RL 146 yL_greatest, Cond.static yL_greatest, Cond.codeWith yL_greatest cL_greatest 6 (some .int) [(0, 12, 15, 30), (0, 12, 19, 19)]]
def wsL_law0_r15 : List Cond := [Cond.methodLink RL 63 yX2_greatest, Cond.instanceMethod yX2_greatest, Cond.selects RX2 yX2_greatest yX2_greatest, Cond.code yX2_greatest cX2_greatest 9 (some .int), Cond.methodLink RX2 112 Lib.Math.max.name, Cond.static Lib.Math.max.name, Cond.initialized "java/lang/Math", Cond.code Lib.Math.max.name Lib.Math.max.code 2 (some .int), Cond.methodLink RL 148 yX3_greatest, Cond.instanceMethod yX3_greatest, Cond.selects RX3 yX3_greatest yX3_greatest, Cond.code yX3_greatest cX3_greatest 8 (some .int), Cond.constant RX3 70 (-2147483648), Cond.methodLink RL 149 yL_differs, Cond.static yL_differs, Cond.codeWith yL_differs cL_differs 5 (some .int) [(0, 10, 13, 30)], Cond.methodLink RL 67 yX2_differs, Cond.instanceMethod yX2_differs, Cond.selects RX2 yX2_differs yX2_differs, Cond.code yX2_differs cX2_differs 5 (some .int), Cond.methodLink RL 151 yX3_differs, Cond.instanceMethod yX3_differs, Cond.selects RX3 yX3_differs yX3_differs, Cond.code yX3_differs cX3_differs 5 (some .int)]
def wsL_law0_r16 : List Cond := [Cond.methodLink RX3 71 yX3_isOther, Cond.instanceMethod yX3_isOther, Cond.selects RX3 yX3_isOther yX3_isOther, Cond.code yX3_isOther cX3_isOther 5 (some .boolean), Cond.methodLink RL 152 yL_firstDifference, Cond.static yL_firstDifference, Cond.codeWith yL_firstDifference cL_firstDifference 5 (some .int) [(0, 10, 13, 30), (0, 10, 17, 19)], Cond.methodLink RL 70 yX2_firstDifference, Cond.instanceMethod yX2_firstDifference, Cond.selects RX2 yX2_firstDifference yX2_firstDifference, Cond.code yX2_firstDifference cX2_firstDifference 6 (some .int), Cond.methodLink RX2 125 Lib.Math.min.name, Cond.static Lib.Math.min.name, Cond.code Lib.Math.min.name Lib.Math.min.code 2 (some .int), Cond.methodLink RX2 118 yX1_countAlikeAtStart, Cond.instanceMethod yX1_countAlikeAtStart, Cond.selects RX1 yX1_countAlikeAtStart yX1_countAlikeAtStart, Cond.code yX1_countAlikeAtStart cX1_countAlikeAtStart 4 (some .int), Cond.methodLink RX1 43 Lib.Math.min.name, Cond.methodLink RL 154 yX3_firstDifference, Cond.instanceMethod yX3_firstDifference, Cond.selects RX3 yX3_firstDifference yX3_firstDifference, Cond.code yX3_firstDifference cX3_firstDifference 9 (some .int), Cond.methodLink RX3 75 yX3_firstOther]
def wsL_law0_r17 : List Cond := [Cond.instanceMethod yX3_firstOther, Cond.selects RX3 yX3_firstOther yX3_firstOther, Cond.code yX3_firstOther cX3_firstOther 4 (some .int), Cond.methodLink RL 155 yL_open, Cond.static yL_open, Cond.codeWith yL_open cL_open 6 (some .int) [(0, 12, 15, 30), (0, 12, 19, 13)], Cond.methodLink RL 73 yX2_open, Cond.instanceMethod yX2_open, Cond.selects RX2 yX2_open yX2_open, Cond.code yX2_open cX2_open 6 (some .int), Cond.methodLink RX2 128 yX0_start, Cond.instanceMethod yX0_start, Cond.selects RX0 yX0_start yX0_start, Cond.code yX0_start cX0_start 4 none, Cond.fieldLink RX0 20 "OrderedVersions$Cursor" "down" "Z", Cond.fieldLink RX0 28 "OrderedVersions$Cursor" "at" "I", Cond.methodLink RX0 16 yX1_copyFrom, Cond.methodLink RX0 24 yX1_nearest, Cond.methodLink RL 157 yX3_open, Cond.instanceMethod yX3_open, Cond.selects RX3 yX3_open yX3_open, Cond.code yX3_open cX3_open 5 (some .int), Cond.methodLink RL 158 yL_next, Cond.static yL_next]
def wsL_law0_r18 : List Cond := [Cond.codeWith yL_next cL_next 4 (some .int) [(0, 9, 12, 30), (0, 9, 15, 19)], Cond.methodLink RL 76 yX2_next, Cond.instanceMethod yX2_next, Cond.selects RX2 yX2_next yX2_next, Cond.code yX2_next cX2_next 4 (some .int), Cond.fieldLink RX2 136 "OrderedVersions$Cursor" "map" "LOrderedVersions$Table;", Cond.fieldLink RX2 139 "OrderedVersions$Cursor" "at" "I", Cond.methodLink RX2 132 yX2_cursorOf, Cond.instanceMethod yX2_cursorOf, Cond.selects RX2 yX2_cursorOf yX2_cursorOf, Cond.code yX2_cursorOf cX2_cursorOf 2 (some (.object "OrderedVersions$Cursor")), Cond.methodLink RX2 142 yX0_goOver, Cond.instanceMethod yX0_goOver, Cond.selects RX0 yX0_goOver yX0_goOver, Cond.code yX0_goOver cX0_goOver 2 none, Cond.methodLink RL 160 yX3_next, Cond.instanceMethod yX3_next, Cond.selects RX3 yX3_next yX3_next, Cond.code yX3_next cX3_next 3 (some .int), Cond.methodLink RX3 78 yX3_isCursor, Cond.instanceMethod yX3_isCursor, Cond.selects RX3 yX3_isCursor yX3_isCursor, Cond.code yX3_isCursor cX3_isCursor 2 (some .boolean), Cond.methodLink RX3 81 yX3_isAtEnd]
def wsL_law0_r19 : List Cond := [Cond.instanceMethod yX3_isAtEnd, Cond.selects RX3 yX3_isAtEnd yX3_isAtEnd, Cond.code yX3_isAtEnd cX3_isAtEnd 2 (some .boolean), Cond.methodLink RX3 84 yX3_goOn, Cond.instanceMethod yX3_goOn, Cond.selects RX3 yX3_goOn yX3_goOn, Cond.code yX3_goOn cX3_goOn 2 none, Cond.methodLink RL 161 yL_skip, Cond.static yL_skip, Cond.codeWith yL_skip cL_skip 5 (some .int) [(0, 10, 13, 30), (0, 10, 17, 25)], Cond.methodLink RL 79 yX2_skip, Cond.instanceMethod yX2_skip, Cond.selects RX2 yX2_skip yX2_skip, Cond.code yX2_skip cX2_skip 5 (some .int), Cond.methodLink RX2 146 yX0_countLeft, Cond.instanceMethod yX0_countLeft, Cond.selects RX0 yX0_countLeft yX0_countLeft, Cond.code yX0_countLeft cX0_countLeft 1 (some .int), Cond.fieldLink RX0 32 "OrderedVersions$Table" "count" "I", Cond.methodLink RL 163 yX3_skip, Cond.instanceMethod yX3_skip, Cond.selects RX3 yX3_skip yX3_skip, Cond.code yX3_skip cX3_skip 4 (some .int), Cond.methodLink RL 164 yL_peek]
def wsL_law0_r20 : List Cond := [Cond.static yL_peek, Cond.codeWith yL_peek cL_peek 4 (some .int) [(0, 9, 12, 30), (0, 9, 15, 19)], Cond.methodLink RL 82 yX2_peek, Cond.instanceMethod yX2_peek, Cond.selects RX2 yX2_peek yX2_peek, Cond.code yX2_peek cX2_peek 3 (some .int), Cond.methodLink RL 166 yX3_peek, Cond.instanceMethod yX3_peek, Cond.selects RX3 yX3_peek yX3_peek, Cond.code yX3_peek cX3_peek 2 (some .int), Cond.methodLink RL 167 yL_close, Cond.static yL_close, Cond.codeWith yL_close cL_close 4 (some .int) [(0, 9, 12, 30)], Cond.methodLink RL 85 yX2_close, Cond.instanceMethod yX2_close, Cond.selects RX2 yX2_close yX2_close, Cond.code yX2_close cX2_close 2 (some .int), Cond.methodLink RX2 154 yX0_stop, Cond.instanceMethod yX0_stop, Cond.selects RX0 yX0_stop yX0_stop, Cond.code yX0_stop cX0_stop 1 none, Cond.methodLink RL 169 yX3_close, Cond.instanceMethod yX3_close, Cond.selects RX3 yX3_close yX3_close]
def wsL_law0_r21 : List Cond := [Cond.code yX3_close cX3_close 4 (some .int), Cond.methodLink RL 170 yX2_astray, Cond.instanceMethod yX2_astray, Cond.selects RX2 yX2_astray yX2_astray, Cond.code yX2_astray cX2_astray 3 (some .int), Cond.methodLink RX2 157 yX1_countWrong, Cond.instanceMethod yX1_countWrong, Cond.selects RX1 yX1_countWrong yX1_countWrong, Cond.code yX1_countWrong cX1_countWrong 4 (some .int), Cond.methodLink RX2 161 yX0_countWrong, Cond.instanceMethod yX0_countWrong, Cond.selects RX0 yX0_countWrong yX0_countWrong, Cond.code yX0_countWrong cX0_countWrong 3 (some .int), Cond.methodLink RX0 35 yX1_countWrong, Cond.methodLink RL 173 yX3_astray, Cond.instanceMethod yX3_astray, Cond.selects RX3 yX3_astray yX3_astray, Cond.code yX3_astray cX3_astray 1 (some .int)]
def wsL_law0 : List Cond := (wsL_law0_r1 ++ (wsL_law0_r2 ++ (wsL_law0_r3 ++ (wsL_law0_r4 ++ (wsL_law0_r5 ++ (wsL_law0_r6 ++ (wsL_law0_r7 ++ (wsL_law0_r8 ++ (wsL_law0_r9 ++ (wsL_law0_r10 ++ (wsL_law0_r11 ++ (wsL_law0_r12 ++ (wsL_law0_r13 ++ (wsL_law0_r14 ++ (wsL_law0_r15 ++ (wsL_law0_r16 ++ (wsL_law0_r17 ++ (wsL_law0_r18 ++ (wsL_law0_r19 ++ (wsL_law0_r20 ++ wsL_law0_r21)))))))))))))))))))) ++ wsX20 ++ wsX30 ++ wsX10 ++ wsX00 ++ ([] : List Cond)
def wsL_law : List Cond := wsL_law0 ++ (vx_at0 RX2 52 "java/lang/UnsupportedOperationException" ["java/lang/RuntimeException", "java/lang/Exception"]).filter goodWord ++ (vx_at0 RX2 59 "java/util/NoSuchElementException" ["java/lang/RuntimeException", "java/lang/Exception"]).filter goodWord ++ (vx_at0 RX2 66 "java/lang/IllegalArgumentException" ["java/lang/RuntimeException", "java/lang/Exception"]).filter goodWord ++ (vx_at0 RX2 168 "java/lang/IndexOutOfBoundsException" ["java/lang/RuntimeException", "java/lang/Exception"]).filter goodWord
theorem dJ9_max_7cf53_0 : decode cJ9_max_7cf53 0 = .ok (.iload_n 0, 1) := by decide +kernel
theorem dJ9_max_7cf53_1 : decode cJ9_max_7cf53 1 = .ok (.iload_n 1, 1) := by decide +kernel
theorem dJ9_max_7cf53_2 : decode cJ9_max_7cf53 2 = .ok (.if_icmp .lt 7, 3) := by decide +kernel
theorem dJ9_max_7cf53_5 : decode cJ9_max_7cf53 5 = .ok (.iload_n 0, 1) := by decide +kernel
theorem dJ9_max_7cf53_6 : decode cJ9_max_7cf53 6 = .ok (.goto 4, 3) := by decide +kernel
theorem dJ9_max_7cf53_9 : decode cJ9_max_7cf53 9 = .ok (.iload_n 1, 1) := by decide +kernel
theorem dJ9_max_7cf53_10 : decode cJ9_max_7cf53 10 = .ok (.ireturn, 1) := by decide +kernel
theorem dJ9_min_7cf53_0 : decode cJ9_min_7cf53 0 = .ok (.iload_n 0, 1) := by decide +kernel
theorem dJ9_min_7cf53_1 : decode cJ9_min_7cf53 1 = .ok (.iload_n 1, 1) := by decide +kernel
theorem dJ9_min_7cf53_2 : decode cJ9_min_7cf53 2 = .ok (.if_icmp .gt 7, 3) := by decide +kernel
theorem dJ9_min_7cf53_5 : decode cJ9_min_7cf53 5 = .ok (.iload_n 0, 1) := by decide +kernel
theorem dJ9_min_7cf53_6 : decode cJ9_min_7cf53 6 = .ok (.goto 4, 3) := by decide +kernel
theorem dJ9_min_7cf53_9 : decode cJ9_min_7cf53 9 = .ok (.iload_n 1, 1) := by decide +kernel
theorem dJ9_min_7cf53_10 : decode cJ9_min_7cf53 10 = .ok (.ireturn, 1) := by decide +kernel
abbrev vwCl : List vw_C := [(RX0, TX0, 3), (RX1, TX1, 3), (RX2, TX2, 5), (RX3, TX3, 7)]
end
section
set_option maxRecDepth 20000 in
theorem in_wsL_law0_r1 : ∀ w ∈ wsL_law0_r1, w ∈ lw_tbl := fun w h => (goodIn_p wsL_law0_r1 [37, 40] (by decide +kernel) (by decide +kernel) w h).1
set_option maxRecDepth 20000 in
theorem in_wsL_law0_r2 : ∀ w ∈ wsL_law0_r2, w ∈ lw_tbl := fun w h => (goodIn_p wsL_law0_r2 [45, 68, 487] (by decide +kernel) (by decide +kernel) w h).1
set_option maxRecDepth 20000 in
theorem in_wsL_law0_r3 : ∀ w ∈ wsL_law0_r3, w ∈ lw_tbl := fun w h => (goodIn_p wsL_law0_r3 [149, 108, 117, 121] (by decide +kernel) (by decide +kernel) w h).1
set_option maxRecDepth 20000 in
theorem in_wsL_law0_r4 : ∀ w ∈ wsL_law0_r4, w ∈ lw_tbl := fun w h => (goodIn_p wsL_law0_r4 [218, 518, 522, 526] (by decide +kernel) (by decide +kernel) w h).1
set_option maxRecDepth 20000 in
theorem in_wsL_law0_r5 : ∀ w ∈ wsL_law0_r5, w ∈ lw_tbl := fun w h => (goodIn_p wsL_law0_r5 [530, 514, 226, 125, 534] (by decide +kernel) (by decide +kernel) w h).1
set_option maxRecDepth 20000 in
theorem in_wsL_law0_r6 : ∀ w ∈ wsL_law0_r6, w ∈ lw_tbl := fun w h => (goodIn_p wsL_law0_r6 [538, 249, 269, 542] (by decide +kernel) (by decide +kernel) w h).1
set_option maxRecDepth 20000 in
theorem in_wsL_law0_r7 : ∀ w ∈ wsL_law0_r7, w ∈ lw_tbl := fun w h => (goodIn_p wsL_law0_r7 [104, 112, 547, 551, 555] (by decide +kernel) (by decide +kernel) w h).1
end
section
set_option maxRecDepth 20000 in
theorem in_wsL_law0_r8 : ∀ w ∈ wsL_law0_r8, w ∈ lw_tbl := fun w h => (goodIn_p wsL_law0_r8 [277, 281, 284, 303, 307] (by decide +kernel) (by decide +kernel) w h).1
set_option maxRecDepth 20000 in
theorem in_wsL_law0_r9 : ∀ w ∈ wsL_law0_r9, w ∈ lw_tbl := fun w h => (goodIn_p wsL_law0_r9 [559, 563, 314, 317, 321, 567] (by decide +kernel) (by decide +kernel) w h).1
set_option maxRecDepth 20000 in
theorem in_wsL_law0_r10 : ∀ w ∈ wsL_law0_r10, w ∈ lw_tbl := fun w h => (goodIn_p wsL_law0_r10 [571, 575, 328, 332, 335] (by decide +kernel) (by decide +kernel) w h).1
set_option maxRecDepth 20000 in
theorem in_wsL_law0_r11 : ∀ w ∈ wsL_law0_r11, w ∈ lw_tbl := fun w h => (goodIn_p wsL_law0_r11 [579, 583, 342, 587, 349] (by decide +kernel) (by decide +kernel) w h).1
set_option maxRecDepth 20000 in
theorem in_wsL_law0_r12 : ∀ w ∈ wsL_law0_r12, w ∈ lw_tbl := fun w h => (goodIn_p wsL_law0_r12 [591, 356, 595, 363] (by decide +kernel) (by decide +kernel) w h).1
set_option maxRecDepth 20000 in
theorem in_wsL_law0_r13 : ∀ w ∈ wsL_law0_r13, w ∈ lw_tbl := fun w h => (goodIn_p wsL_law0_r13 [599, 370, 373, 603] (by decide +kernel) (by decide +kernel) w h).1
set_option maxRecDepth 20000 in
theorem in_wsL_law0_r14 : ∀ w ∈ wsL_law0_r14, w ∈ lw_tbl := fun w h => (goodIn_p wsL_law0_r14 [381, 385, 607, 393, 611] (by decide +kernel) (by decide +kernel) w h).1
set_option maxRecDepth 20000 in
theorem in_wsL_law0_r15 : ∀ w ∈ wsL_law0_r15, w ∈ lw_tbl := fun w h => (goodIn_p wsL_law0_r15 [400, 403, 615, 410, 620] (by decide +kernel) (by decide +kernel) w h).1
end
section
set_option maxRecDepth 20000 in
theorem in_wsL_law0_r16 : ∀ w ∈ wsL_law0_r16, w ∈ lw_tbl := fun w h => (goodIn_p wsL_law0_r16 [624, 417, 424, 421, 628] (by decide +kernel) (by decide +kernel) w h).1
set_option maxRecDepth 20000 in
theorem in_wsL_law0_r17 : ∀ w ∈ wsL_law0_r17, w ∈ lw_tbl := fun w h => (goodIn_p wsL_law0_r17 [632, 432, 436, 636] (by decide +kernel) (by decide +kernel) w h).1
set_option maxRecDepth 20000 in
theorem in_wsL_law0_r18 : ∀ w ∈ wsL_law0_r18, w ∈ lw_tbl := fun w h => (goodIn_p wsL_law0_r18 [445, 449, 453, 640, 644] (by decide +kernel) (by decide +kernel) w h).1
set_option maxRecDepth 20000 in
theorem in_wsL_law0_r19 : ∀ w ∈ wsL_law0_r19, w ∈ lw_tbl := fun w h => (goodIn_p wsL_law0_r19 [648, 652, 460, 464, 656] (by decide +kernel) (by decide +kernel) w h).1
set_option maxRecDepth 20000 in
theorem in_wsL_law0_r20 : ∀ w ∈ wsL_law0_r20, w ∈ lw_tbl := fun w h => (goodIn_p wsL_law0_r20 [471, 660, 478, 482] (by decide +kernel) (by decide +kernel) w h).1
set_option maxRecDepth 20000 in
theorem in_wsL_law0_r21 : ∀ w ∈ wsL_law0_r21, w ∈ lw_tbl := fun w h => (goodIn_p wsL_law0_r21 [664, 132, 136, 140, 668] (by decide +kernel) (by decide +kernel) w h).1
theorem in_wsX20 : ∀ w ∈ wsX20, w ∈ lw_tbl := by decide +kernel
theorem in_wsX30 : ∀ w ∈ wsX30, w ∈ lw_tbl := by decide +kernel
theorem in_wsX10 : ∀ w ∈ wsX10, w ∈ lw_tbl := by decide +kernel
theorem in_wsX00 : ∀ w ∈ wsX00, w ∈ lw_tbl := by decide +kernel
end
section
theorem wsL_law_in0 : ∀ w ∈ wsL_law0, w ∈ lw_tbl := fun w => (fun h => (List.mem_append.mp h).elim (fun h => (List.mem_append.mp h).elim (fun h => (List.mem_append.mp h).elim (fun h => (List.mem_append.mp h).elim (fun h => (List.mem_append.mp h).elim (fun h => (List.mem_append.mp h).elim (in_wsL_law0_r1 w) (fun h => (List.mem_append.mp h).elim (in_wsL_law0_r2 w) (fun h => (List.mem_append.mp h).elim (in_wsL_law0_r3 w) (fun h => (List.mem_append.mp h).elim (in_wsL_law0_r4 w) (fun h => (List.mem_append.mp h).elim (in_wsL_law0_r5 w) (fun h => (List.mem_append.mp h).elim (in_wsL_law0_r6 w) (fun h => (List.mem_append.mp h).elim (in_wsL_law0_r7 w) (fun h => (List.mem_append.mp h).elim (in_wsL_law0_r8 w) (fun h => (List.mem_append.mp h).elim (in_wsL_law0_r9 w) (fun h => (List.mem_append.mp h).elim (in_wsL_law0_r10 w) (fun h => (List.mem_append.mp h).elim (in_wsL_law0_r11 w) (fun h => (List.mem_append.mp h).elim (in_wsL_law0_r12 w) (fun h => (List.mem_append.mp h).elim (in_wsL_law0_r13 w) (fun h => (List.mem_append.mp h).elim (in_wsL_law0_r14 w) (fun h => (List.mem_append.mp h).elim (in_wsL_law0_r15 w) (fun h => (List.mem_append.mp h).elim (in_wsL_law0_r16 w) (fun h => (List.mem_append.mp h).elim (in_wsL_law0_r17 w) (fun h => (List.mem_append.mp h).elim (in_wsL_law0_r18 w) (fun h => (List.mem_append.mp h).elim (in_wsL_law0_r19 w) (fun h => (List.mem_append.mp h).elim (in_wsL_law0_r20 w) (in_wsL_law0_r21 w))))))))))))))))))))) (in_wsX20 w)) (in_wsX30 w)) (in_wsX10 w)) (in_wsX00 w)) (fun h => absurd h List.not_mem_nil))
theorem wsL_law_x0 : ∀ w ∈ (vx_at0 RX2 52 "java/lang/UnsupportedOperationException" ["java/lang/RuntimeException", "java/lang/Exception"]).filter goodWord, w ∈ lw_tbl := by decide +kernel
theorem wsL_law_x1 : ∀ w ∈ (vx_at0 RX2 59 "java/util/NoSuchElementException" ["java/lang/RuntimeException", "java/lang/Exception"]).filter goodWord, w ∈ lw_tbl := by decide +kernel
theorem wsL_law_x2 : ∀ w ∈ (vx_at0 RX2 66 "java/lang/IllegalArgumentException" ["java/lang/RuntimeException", "java/lang/Exception"]).filter goodWord, w ∈ lw_tbl := by decide +kernel
theorem wsL_law_x3 : ∀ w ∈ (vx_at0 RX2 168 "java/lang/IndexOutOfBoundsException" ["java/lang/RuntimeException", "java/lang/Exception"]).filter goodWord, w ∈ lw_tbl := by decide +kernel
theorem wsL_law_in : ∀ w ∈ wsL_law, w ∈ lw_tbl := fun w h => (List.mem_append.mp h).elim (fun h => (List.mem_append.mp h).elim (fun h => (List.mem_append.mp h).elim (fun h => (List.mem_append.mp h).elim (fun h => wsL_law_in0 w h) (fun h => wsL_law_x0 w h)) (fun h => wsL_law_x1 w h)) (fun h => wsL_law_x2 w h)) (fun h => wsL_law_x3 w h)
theorem inlX0 : ∀ w ∈ wsX00, w ∈ wsL_law := fun _ h => List.mem_append_left _ (List.mem_append_left _ (List.mem_append_left _ (List.mem_append_left _ (List.mem_append_left _ (List.mem_append_right _ h)))))
theorem inX0 : ∀ w ∈ wsX00, w ∈ lw_tbl := fun w h => wsL_law_in w (inlX0 w h)
theorem inlX1 : ∀ w ∈ wsX10, w ∈ wsL_law := fun _ h => List.mem_append_left _ (List.mem_append_left _ (List.mem_append_left _ (List.mem_append_left _ (List.mem_append_left _ (List.mem_append_left _ (List.mem_append_right _ h))))))
theorem inX1 : ∀ w ∈ wsX10, w ∈ lw_tbl := fun w h => wsL_law_in w (inlX1 w h)
theorem inlX2 : ∀ w ∈ wsX20, w ∈ wsL_law := fun _ h => List.mem_append_left _ (List.mem_append_left _ (List.mem_append_left _ (List.mem_append_left _ (List.mem_append_left _ (List.mem_append_left _ (List.mem_append_left _ (List.mem_append_left _ (List.mem_append_right _ h))))))))
theorem inX2 : ∀ w ∈ wsX20, w ∈ lw_tbl := fun w h => wsL_law_in w (inlX2 w h)
theorem inlX3 : ∀ w ∈ wsX30, w ∈ wsL_law := fun _ h => List.mem_append_left _ (List.mem_append_left _ (List.mem_append_left _ (List.mem_append_left _ (List.mem_append_left _ (List.mem_append_left _ (List.mem_append_left _ (List.mem_append_right _ h)))))))
theorem inX3 : ∀ w ∈ wsX30, w ∈ lw_tbl := fun w h => wsL_law_in w (inlX3 w h)
theorem inJx145de : ∀ w ∈ wsJx145de0, w ∈ lw_tbl := by decide +kernel
theorem inJ9 : ∀ w ∈ wsJ90, w ∈ lw_tbl := by decide +kernel
theorem inJ10 : ∀ w ∈ wsJ100, w ∈ lw_tbl := by decide +kernel
end
section
set_option maxRecDepth 20000 in
theorem ggX0_init_X1_init : GoodIn wsX0_init wsX1_init := goodIn_r _ [9, 10, 2, 3, 11, 12, 13, 14, 15, 16] (by decide +kernel) (by decide +kernel)
set_option maxRecDepth 20000 in
theorem gX0_init_X1_init_n9 : GoodIn wsX0_init (wsX1_init) := ggX0_init_X1_init
theorem dX0_init_0 : decode cX0_init 0 = .ok (.aload_n 0, 1) := by decide +kernel
theorem dX0_init_1 : decode cX0_init 1 = .ok (.invokespecial 1, 3) := by decide +kernel
theorem dX0_init_4 : decode cX0_init 4 = .ok (.aload_n 0, 1) := by decide +kernel
theorem dX0_init_5 : decode cX0_init 5 = .ok (.new 7, 3) := by decide +kernel
theorem dX0_init_8 : decode cX0_init 8 = .ok (.dup, 1) := by decide +kernel
theorem dX0_init_9 : decode cX0_init 9 = .ok (.invokespecial 9, 3) := by decide +kernel
theorem dX0_init_12 : decode cX0_init 12 = .ok (.putfield 10, 3) := by decide +kernel
theorem dX0_init_15 : decode cX0_init 15 = .ok (.return_, 1) := by decide +kernel
set_option maxRecDepth 20000 in
theorem ggX0_start_X1_copyFrom : GoodIn wsX0_start wsX1_copyFrom := goodIn_r _ [8, 9, 10, 11, 12, 13, 14, 15, 39, 40, 41] (by decide +kernel) (by decide +kernel)
set_option maxRecDepth 20000 in
theorem gX0_start_X1_copyFrom : GoodIn wsX0_start (wsV RX0 16 RX1 yX1_copyFrom wsX1_copyFrom) := goodIn_app (goodIn_of _ (by decide +kernel)) ggX0_start_X1_copyFrom
set_option maxRecDepth 20000 in
theorem ggX0_start_X1_nearest : GoodIn wsX0_start wsX1_nearest := goodIn_r _ [19, 20, 21, 22, 7, 23, 10, 9, 24, 25, 26, 27, 28, 29, 30, 31, 32, 33, 34, 35, 39, 40, 41] (by decide +kernel) (by decide +kernel)
set_option maxRecDepth 20000 in
theorem gX0_start_X1_nearest : GoodIn wsX0_start (wsV RX0 24 RX1 yX1_nearest wsX1_nearest) := goodIn_app (goodIn_of _ (by decide +kernel)) ggX0_start_X1_nearest
theorem dX0_start_0 : decode cX0_start 0 = .ok (.aload_n 0, 1) := by decide +kernel
theorem dX0_start_1 : decode cX0_start 1 = .ok (.getfield 10, 3) := by decide +kernel
theorem dX0_start_4 : decode cX0_start 4 = .ok (.aload_n 1, 1) := by decide +kernel
theorem dX0_start_5 : decode cX0_start 5 = .ok (.invokevirtual 16, 3) := by decide +kernel
theorem dX0_start_8 : decode cX0_start 8 = .ok (.aload_n 0, 1) := by decide +kernel
theorem dX0_start_9 : decode cX0_start 9 = .ok (.iload_n 3, 1) := by decide +kernel
theorem dX0_start_10 : decode cX0_start 10 = .ok (.putfield 20, 3) := by decide +kernel
theorem dX0_start_13 : decode cX0_start 13 = .ok (.aload_n 0, 1) := by decide +kernel
theorem dX0_start_14 : decode cX0_start 14 = .ok (.aload_n 0, 1) := by decide +kernel
theorem dX0_start_15 : decode cX0_start 15 = .ok (.getfield 10, 3) := by decide +kernel
theorem dX0_start_18 : decode cX0_start 18 = .ok (.iload_n 2, 1) := by decide +kernel
theorem dX0_start_19 : decode cX0_start 19 = .ok (.iload_n 3, 1) := by decide +kernel
theorem dX0_start_20 : decode cX0_start 20 = .ok (.ifCond .ne 7, 3) := by decide +kernel
theorem dX0_start_23 : decode cX0_start 23 = .ok (.iconst 1, 1) := by decide +kernel
theorem dX0_start_24 : decode cX0_start 24 = .ok (.goto 4, 3) := by decide +kernel
theorem dX0_start_27 : decode cX0_start 27 = .ok (.iconst 0, 1) := by decide +kernel
theorem dX0_start_28 : decode cX0_start 28 = .ok (.invokevirtual 24, 3) := by decide +kernel
theorem dX0_start_31 : decode cX0_start 31 = .ok (.putfield 28, 3) := by decide +kernel
theorem dX0_start_34 : decode cX0_start 34 = .ok (.return_, 1) := by decide +kernel
theorem dX0_stop_0 : decode cX0_stop 0 = .ok (.aload_n 0, 1) := by decide +kernel
theorem dX0_stop_1 : decode cX0_stop 1 = .ok (.getfield 10, 3) := by decide +kernel
theorem dX0_stop_4 : decode cX0_stop 4 = .ok (.iconst 0, 1) := by decide +kernel
theorem dX0_stop_5 : decode cX0_stop 5 = .ok (.putfield 32, 3) := by decide +kernel
theorem dX0_stop_8 : decode cX0_stop 8 = .ok (.aload_n 0, 1) := by decide +kernel
theorem dX0_stop_9 : decode cX0_stop 9 = .ok (.iconst 0, 1) := by decide +kernel
theorem dX0_stop_10 : decode cX0_stop 10 = .ok (.putfield 28, 3) := by decide +kernel
theorem dX0_stop_13 : decode cX0_stop 13 = .ok (.return_, 1) := by decide +kernel
theorem dX0_countLeft_0 : decode cX0_countLeft 0 = .ok (.aload_n 0, 1) := by decide +kernel
theorem dX0_countLeft_1 : decode cX0_countLeft 1 = .ok (.getfield 20, 3) := by decide +kernel
theorem dX0_countLeft_4 : decode cX0_countLeft 4 = .ok (.ifCond .eq 12, 3) := by decide +kernel
theorem dX0_countLeft_7 : decode cX0_countLeft 7 = .ok (.aload_n 0, 1) := by decide +kernel
theorem dX0_countLeft_8 : decode cX0_countLeft 8 = .ok (.getfield 28, 3) := by decide +kernel
theorem dX0_countLeft_11 : decode cX0_countLeft 11 = .ok (.iconst 1, 1) := by decide +kernel
theorem dX0_countLeft_12 : decode cX0_countLeft 12 = .ok (.iadd, 1) := by decide +kernel
theorem dX0_countLeft_13 : decode cX0_countLeft 13 = .ok (.goto 15, 3) := by decide +kernel
theorem dX0_countLeft_16 : decode cX0_countLeft 16 = .ok (.aload_n 0, 1) := by decide +kernel
theorem dX0_countLeft_17 : decode cX0_countLeft 17 = .ok (.getfield 10, 3) := by decide +kernel
theorem dX0_countLeft_20 : decode cX0_countLeft 20 = .ok (.getfield 32, 3) := by decide +kernel
theorem dX0_countLeft_23 : decode cX0_countLeft 23 = .ok (.aload_n 0, 1) := by decide +kernel
theorem dX0_countLeft_24 : decode cX0_countLeft 24 = .ok (.getfield 28, 3) := by decide +kernel
theorem dX0_countLeft_27 : decode cX0_countLeft 27 = .ok (.isub, 1) := by decide +kernel
theorem dX0_countLeft_28 : decode cX0_countLeft 28 = .ok (.ireturn, 1) := by decide +kernel
theorem dX0_goOver_0 : decode cX0_goOver 0 = .ok (.aload_n 0, 1) := by decide +kernel
theorem dX0_goOver_1 : decode cX0_goOver 1 = .ok (.dup, 1) := by decide +kernel
theorem dX0_goOver_2 : decode cX0_goOver 2 = .ok (.getfield 28, 3) := by decide +kernel
theorem dX0_goOver_5 : decode cX0_goOver 5 = .ok (.aload_n 0, 1) := by decide +kernel
theorem dX0_goOver_6 : decode cX0_goOver 6 = .ok (.getfield 20, 3) := by decide +kernel
theorem dX0_goOver_9 : decode cX0_goOver 9 = .ok (.ifCond .eq 8, 3) := by decide +kernel
theorem dX0_goOver_12 : decode cX0_goOver 12 = .ok (.iload_n 1, 1) := by decide +kernel
theorem dX0_goOver_13 : decode cX0_goOver 13 = .ok (.ineg, 1) := by decide +kernel
theorem dX0_goOver_14 : decode cX0_goOver 14 = .ok (.goto 4, 3) := by decide +kernel
theorem dX0_goOver_17 : decode cX0_goOver 17 = .ok (.iload_n 1, 1) := by decide +kernel
theorem dX0_goOver_18 : decode cX0_goOver 18 = .ok (.iadd, 1) := by decide +kernel
theorem dX0_goOver_19 : decode cX0_goOver 19 = .ok (.putfield 28, 3) := by decide +kernel
theorem dX0_goOver_22 : decode cX0_goOver 22 = .ok (.return_, 1) := by decide +kernel
set_option maxRecDepth 20000 in
theorem ggX0_countWrong_X1_countWrong : GoodIn wsX0_countWrong wsX1_countWrong := goodIn_r _ [8, 9, 10, 14, 15, 16] (by decide +kernel) (by decide +kernel)
set_option maxRecDepth 20000 in
theorem gX0_countWrong_X1_countWrong : GoodIn wsX0_countWrong (wsV RX0 35 RX1 yX1_countWrong wsX1_countWrong) := goodIn_app (goodIn_of _ (by decide +kernel)) ggX0_countWrong_X1_countWrong
theorem dX0_countWrong_0 : decode cX0_countWrong 0 = .ok (.aload_n 0, 1) := by decide +kernel
theorem dX0_countWrong_1 : decode cX0_countWrong 1 = .ok (.getfield 28, 3) := by decide +kernel
theorem dX0_countWrong_4 : decode cX0_countWrong 4 = .ok (.iconst (-1), 1) := by decide +kernel
theorem dX0_countWrong_5 : decode cX0_countWrong 5 = .ok (.if_icmp .lt 17, 3) := by decide +kernel
theorem dX0_countWrong_8 : decode cX0_countWrong 8 = .ok (.aload_n 0, 1) := by decide +kernel
theorem dX0_countWrong_9 : decode cX0_countWrong 9 = .ok (.getfield 28, 3) := by decide +kernel
theorem dX0_countWrong_12 : decode cX0_countWrong 12 = .ok (.aload_n 0, 1) := by decide +kernel
theorem dX0_countWrong_13 : decode cX0_countWrong 13 = .ok (.getfield 10, 3) := by decide +kernel
theorem dX0_countWrong_16 : decode cX0_countWrong 16 = .ok (.getfield 32, 3) := by decide +kernel
theorem dX0_countWrong_19 : decode cX0_countWrong 19 = .ok (.if_icmp .le 7, 3) := by decide +kernel
theorem dX0_countWrong_22 : decode cX0_countWrong 22 = .ok (.iconst 1, 1) := by decide +kernel
theorem dX0_countWrong_23 : decode cX0_countWrong 23 = .ok (.goto 4, 3) := by decide +kernel
theorem dX0_countWrong_26 : decode cX0_countWrong 26 = .ok (.iconst 0, 1) := by decide +kernel
theorem dX0_countWrong_27 : decode cX0_countWrong 27 = .ok (.istore_n 2, 1) := by decide +kernel
theorem dX0_countWrong_28 : decode cX0_countWrong 28 = .ok (.aload_n 0, 1) := by decide +kernel
theorem dX0_countWrong_29 : decode cX0_countWrong 29 = .ok (.getfield 10, 3) := by decide +kernel
theorem dX0_countWrong_32 : decode cX0_countWrong 32 = .ok (.iload_n 1, 1) := by decide +kernel
theorem dX0_countWrong_33 : decode cX0_countWrong 33 = .ok (.invokevirtual 35, 3) := by decide +kernel
theorem dX0_countWrong_36 : decode cX0_countWrong 36 = .ok (.iload_n 2, 1) := by decide +kernel
theorem dX0_countWrong_37 : decode cX0_countWrong 37 = .ok (.ifCond .eq 7, 3) := by decide +kernel
theorem dX0_countWrong_40 : decode cX0_countWrong 40 = .ok (.iconst 1, 1) := by decide +kernel
theorem dX0_countWrong_41 : decode cX0_countWrong 41 = .ok (.goto 4, 3) := by decide +kernel
theorem dX0_countWrong_44 : decode cX0_countWrong 44 = .ok (.iconst 0, 1) := by decide +kernel
theorem dX0_countWrong_45 : decode cX0_countWrong 45 = .ok (.iadd, 1) := by decide +kernel
theorem dX0_countWrong_46 : decode cX0_countWrong 46 = .ok (.ireturn, 1) := by decide +kernel
end
section
theorem dX1_init_0 : decode cX1_init 0 = .ok (.aload_n 0, 1) := by decide +kernel
theorem dX1_init_1 : decode cX1_init 1 = .ok (.invokespecial 3, 3) := by decide +kernel
theorem dX1_init_4 : decode cX1_init 4 = .ok (.aload_n 0, 1) := by decide +kernel
theorem dX1_init_5 : decode cX1_init 5 = .ok (.sipush 600, 3) := by decide +kernel
theorem dX1_init_8 : decode cX1_init 8 = .ok (.newarray .int, 2) := by decide +kernel
theorem dX1_init_10 : decode cX1_init 10 = .ok (.putfield 9, 3) := by decide +kernel
theorem dX1_init_13 : decode cX1_init 13 = .ok (.aload_n 0, 1) := by decide +kernel
theorem dX1_init_14 : decode cX1_init 14 = .ok (.sipush 600, 3) := by decide +kernel
theorem dX1_init_17 : decode cX1_init 17 = .ok (.newarray .int, 2) := by decide +kernel
theorem dX1_init_19 : decode cX1_init 19 = .ok (.putfield 15, 3) := by decide +kernel
theorem dX1_init_22 : decode cX1_init 22 = .ok (.return_, 1) := by decide +kernel
theorem dX1_isWithin_0 : decode cX1_isWithin 0 = .ok (.iload_n 1, 1) := by decide +kernel
theorem dX1_isWithin_1 : decode cX1_isWithin 1 = .ok (.ifCond .lt 15, 3) := by decide +kernel
theorem dX1_isWithin_4 : decode cX1_isWithin 4 = .ok (.iload_n 1, 1) := by decide +kernel
theorem dX1_isWithin_5 : decode cX1_isWithin 5 = .ok (.aload_n 0, 1) := by decide +kernel
theorem dX1_isWithin_6 : decode cX1_isWithin 6 = .ok (.getfield 18, 3) := by decide +kernel
theorem dX1_isWithin_9 : decode cX1_isWithin 9 = .ok (.if_icmp .ge 7, 3) := by decide +kernel
theorem dX1_isWithin_12 : decode cX1_isWithin 12 = .ok (.iconst 1, 1) := by decide +kernel
theorem dX1_isWithin_13 : decode cX1_isWithin 13 = .ok (.goto 4, 3) := by decide +kernel
theorem dX1_isWithin_16 : decode cX1_isWithin 16 = .ok (.iconst 0, 1) := by decide +kernel
theorem dX1_isWithin_17 : decode cX1_isWithin 17 = .ok (.ireturn, 1) := by decide +kernel
set_option maxRecDepth 20000 in
theorem ggX1_hasAt_X1_isWithin : GoodIn wsX1_hasAt wsX1_isWithin := goodIn_r _ [6, 7, 8, 9, 10] (by decide +kernel) (by decide +kernel)
set_option maxRecDepth 20000 in
theorem gX1_hasAt_X1_isWithin : GoodIn wsX1_hasAt (wsV RX1 22 RX1 yX1_isWithin wsX1_isWithin) := goodIn_app (goodIn_of _ (by decide +kernel)) ggX1_hasAt_X1_isWithin
theorem dX1_hasAt_0 : decode cX1_hasAt 0 = .ok (.aload_n 0, 1) := by decide +kernel
theorem dX1_hasAt_1 : decode cX1_hasAt 1 = .ok (.iload_n 1, 1) := by decide +kernel
theorem dX1_hasAt_2 : decode cX1_hasAt 2 = .ok (.invokevirtual 22, 3) := by decide +kernel
theorem dX1_hasAt_5 : decode cX1_hasAt 5 = .ok (.ifCond .eq 17, 3) := by decide +kernel
theorem dX1_hasAt_8 : decode cX1_hasAt 8 = .ok (.aload_n 0, 1) := by decide +kernel
theorem dX1_hasAt_9 : decode cX1_hasAt 9 = .ok (.getfield 9, 3) := by decide +kernel
theorem dX1_hasAt_12 : decode cX1_hasAt 12 = .ok (.iload_n 1, 1) := by decide +kernel
theorem dX1_hasAt_13 : decode cX1_hasAt 13 = .ok (.iaload, 1) := by decide +kernel
theorem dX1_hasAt_14 : decode cX1_hasAt 14 = .ok (.iload_n 2, 1) := by decide +kernel
theorem dX1_hasAt_15 : decode cX1_hasAt 15 = .ok (.if_icmp .ne 7, 3) := by decide +kernel
theorem dX1_hasAt_18 : decode cX1_hasAt 18 = .ok (.iconst 1, 1) := by decide +kernel
theorem dX1_hasAt_19 : decode cX1_hasAt 19 = .ok (.goto 4, 3) := by decide +kernel
theorem dX1_hasAt_22 : decode cX1_hasAt 22 = .ok (.iconst 0, 1) := by decide +kernel
theorem dX1_hasAt_23 : decode cX1_hasAt 23 = .ok (.ireturn, 1) := by decide +kernel
theorem dX1_countBelow_0 : decode cX1_countBelow 0 = .ok (.iconst 0, 1) := by decide +kernel
theorem dX1_countBelow_1 : decode cX1_countBelow 1 = .ok (.istore_n 2, 1) := by decide +kernel
theorem dX1_countBelow_2 : decode cX1_countBelow 2 = .ok (.iload_n 2, 1) := by decide +kernel
theorem dX1_countBelow_3 : decode cX1_countBelow 3 = .ok (.aload_n 0, 1) := by decide +kernel
theorem dX1_countBelow_4 : decode cX1_countBelow 4 = .ok (.getfield 18, 3) := by decide +kernel
theorem dX1_countBelow_7 : decode cX1_countBelow 7 = .ok (.if_icmp .ge 19, 3) := by decide +kernel
theorem dX1_countBelow_10 : decode cX1_countBelow 10 = .ok (.aload_n 0, 1) := by decide +kernel
theorem dX1_countBelow_11 : decode cX1_countBelow 11 = .ok (.getfield 9, 3) := by decide +kernel
theorem dX1_countBelow_14 : decode cX1_countBelow 14 = .ok (.iload_n 2, 1) := by decide +kernel
theorem dX1_countBelow_15 : decode cX1_countBelow 15 = .ok (.iaload, 1) := by decide +kernel
theorem dX1_countBelow_16 : decode cX1_countBelow 16 = .ok (.iload_n 1, 1) := by decide +kernel
theorem dX1_countBelow_17 : decode cX1_countBelow 17 = .ok (.if_icmp .ge 9, 3) := by decide +kernel
theorem dX1_countBelow_20 : decode cX1_countBelow 20 = .ok (.iinc 2 1, 3) := by decide +kernel
theorem dX1_countBelow_23 : decode cX1_countBelow 23 = .ok (.goto (-21), 3) := by decide +kernel
theorem dX1_countBelow_26 : decode cX1_countBelow 26 = .ok (.iload_n 2, 1) := by decide +kernel
theorem dX1_countBelow_27 : decode cX1_countBelow 27 = .ok (.ireturn, 1) := by decide +kernel
set_option maxRecDepth 20000 in
theorem ggX1_countNotAbove_X1_countBelow : GoodIn wsX1_countNotAbove wsX1_countBelow := goodIn_r _ [5, 6, 7, 16, 17, 18] (by decide +kernel) (by decide +kernel)
set_option maxRecDepth 20000 in
theorem gX1_countNotAbove_X1_countBelow : GoodIn wsX1_countNotAbove (wsV RX1 26 RX1 yX1_countBelow wsX1_countBelow) := goodIn_app (goodIn_of _ (by decide +kernel)) ggX1_countNotAbove_X1_countBelow
set_option maxRecDepth 20000 in
theorem ggX1_countNotAbove_X1_hasAt : GoodIn wsX1_countNotAbove wsX1_hasAt := goodIn_r _ [11, 7, 12, 13, 14, 4, 15, 6, 16, 17, 18] (by decide +kernel) (by decide +kernel)
set_option maxRecDepth 20000 in
theorem gX1_countNotAbove_X1_hasAt : GoodIn wsX1_countNotAbove (wsV RX1 30 RX1 yX1_hasAt wsX1_hasAt) := goodIn_app (goodIn_of _ (by decide +kernel)) ggX1_countNotAbove_X1_hasAt
theorem dX1_countNotAbove_0 : decode cX1_countNotAbove 0 = .ok (.aload_n 0, 1) := by decide +kernel
theorem dX1_countNotAbove_1 : decode cX1_countNotAbove 1 = .ok (.iload_n 1, 1) := by decide +kernel
theorem dX1_countNotAbove_2 : decode cX1_countNotAbove 2 = .ok (.invokevirtual 26, 3) := by decide +kernel
theorem dX1_countNotAbove_5 : decode cX1_countNotAbove 5 = .ok (.istore_n 2, 1) := by decide +kernel
theorem dX1_countNotAbove_6 : decode cX1_countNotAbove 6 = .ok (.aload_n 0, 1) := by decide +kernel
theorem dX1_countNotAbove_7 : decode cX1_countNotAbove 7 = .ok (.iload_n 2, 1) := by decide +kernel
theorem dX1_countNotAbove_8 : decode cX1_countNotAbove 8 = .ok (.iload_n 1, 1) := by decide +kernel
theorem dX1_countNotAbove_9 : decode cX1_countNotAbove 9 = .ok (.invokevirtual 30, 3) := by decide +kernel
theorem dX1_countNotAbove_12 : decode cX1_countNotAbove 12 = .ok (.ifCond .eq 9, 3) := by decide +kernel
theorem dX1_countNotAbove_15 : decode cX1_countNotAbove 15 = .ok (.iload_n 2, 1) := by decide +kernel
theorem dX1_countNotAbove_16 : decode cX1_countNotAbove 16 = .ok (.iconst 1, 1) := by decide +kernel
theorem dX1_countNotAbove_17 : decode cX1_countNotAbove 17 = .ok (.iadd, 1) := by decide +kernel
theorem dX1_countNotAbove_18 : decode cX1_countNotAbove 18 = .ok (.goto 4, 3) := by decide +kernel
theorem dX1_countNotAbove_21 : decode cX1_countNotAbove 21 = .ok (.iload_n 2, 1) := by decide +kernel
theorem dX1_countNotAbove_22 : decode cX1_countNotAbove 22 = .ok (.ireturn, 1) := by decide +kernel
set_option maxRecDepth 20000 in
theorem ggX1_nearest_X1_countBelow : GoodIn wsX1_nearest wsX1_countBelow := goodIn_r _ [5, 6, 7, 20, 21, 22] (by decide +kernel) (by decide +kernel)
set_option maxRecDepth 20000 in
theorem gX1_nearest_X1_countBelow : GoodIn wsX1_nearest (wsV RX1 26 RX1 yX1_countBelow wsX1_countBelow) := goodIn_app (goodIn_of _ (by decide +kernel)) ggX1_nearest_X1_countBelow
set_option maxRecDepth 20000 in
theorem ggX1_nearest_X1_countNotAbove : GoodIn wsX1_nearest wsX1_countNotAbove := goodIn_r _ [11, 1, 2, 3, 4, 5, 6, 7, 12, 13, 14, 15, 16, 17, 18, 19, 20, 21, 22] (by decide +kernel) (by decide +kernel)
set_option maxRecDepth 20000 in
theorem gX1_nearest_X1_countNotAbove : GoodIn wsX1_nearest (wsV RX1 34 RX1 yX1_countNotAbove wsX1_countNotAbove) := goodIn_app (goodIn_of _ (by decide +kernel)) ggX1_nearest_X1_countNotAbove
theorem dX1_nearest_0 : decode cX1_nearest 0 = .ok (.iload_n 2, 1) := by decide +kernel
theorem dX1_nearest_1 : decode cX1_nearest 1 = .ok (.ifCond .eq 11, 3) := by decide +kernel
theorem dX1_nearest_4 : decode cX1_nearest 4 = .ok (.aload_n 0, 1) := by decide +kernel
theorem dX1_nearest_5 : decode cX1_nearest 5 = .ok (.iload_n 1, 1) := by decide +kernel
theorem dX1_nearest_6 : decode cX1_nearest 6 = .ok (.invokevirtual 26, 3) := by decide +kernel
theorem dX1_nearest_9 : decode cX1_nearest 9 = .ok (.goto 10, 3) := by decide +kernel
theorem dX1_nearest_12 : decode cX1_nearest 12 = .ok (.aload_n 0, 1) := by decide +kernel
theorem dX1_nearest_13 : decode cX1_nearest 13 = .ok (.iload_n 1, 1) := by decide +kernel
theorem dX1_nearest_14 : decode cX1_nearest 14 = .ok (.invokevirtual 34, 3) := by decide +kernel
theorem dX1_nearest_17 : decode cX1_nearest 17 = .ok (.iconst 1, 1) := by decide +kernel
theorem dX1_nearest_18 : decode cX1_nearest 18 = .ok (.isub, 1) := by decide +kernel
theorem dX1_nearest_19 : decode cX1_nearest 19 = .ok (.ireturn, 1) := by decide +kernel
theorem dX1_insertAt_0 : decode cX1_insertAt 0 = .ok (.aload_n 0, 1) := by decide +kernel
theorem dX1_insertAt_1 : decode cX1_insertAt 1 = .ok (.getfield 9, 3) := by decide +kernel
theorem dX1_insertAt_4 : decode cX1_insertAt 4 = .ok (.iload_n 1, 1) := by decide +kernel
theorem dX1_insertAt_5 : decode cX1_insertAt 5 = .ok (.aload_n 0, 1) := by decide +kernel
theorem dX1_insertAt_6 : decode cX1_insertAt 6 = .ok (.getfield 9, 3) := by decide +kernel
theorem dX1_insertAt_9 : decode cX1_insertAt 9 = .ok (.iload_n 1, 1) := by decide +kernel
theorem dX1_insertAt_10 : decode cX1_insertAt 10 = .ok (.iconst 1, 1) := by decide +kernel
theorem dX1_insertAt_11 : decode cX1_insertAt 11 = .ok (.iadd, 1) := by decide +kernel
theorem dX1_insertAt_12 : decode cX1_insertAt 12 = .ok (.aload_n 0, 1) := by decide +kernel
theorem dX1_insertAt_13 : decode cX1_insertAt 13 = .ok (.getfield 18, 3) := by decide +kernel
theorem dX1_insertAt_16 : decode cX1_insertAt 16 = .ok (.iload_n 1, 1) := by decide +kernel
theorem dX1_insertAt_17 : decode cX1_insertAt 17 = .ok (.isub, 1) := by decide +kernel
theorem dX1_insertAt_18 : decode cX1_insertAt 18 = .ok (.invokestatic 37, 3) := by decide +kernel
theorem dX1_insertAt_21 : decode cX1_insertAt 21 = .ok (.aload_n 0, 1) := by decide +kernel
theorem dX1_insertAt_22 : decode cX1_insertAt 22 = .ok (.getfield 15, 3) := by decide +kernel
theorem dX1_insertAt_25 : decode cX1_insertAt 25 = .ok (.iload_n 1, 1) := by decide +kernel
theorem dX1_insertAt_26 : decode cX1_insertAt 26 = .ok (.aload_n 0, 1) := by decide +kernel
theorem dX1_insertAt_27 : decode cX1_insertAt 27 = .ok (.getfield 15, 3) := by decide +kernel
theorem dX1_insertAt_30 : decode cX1_insertAt 30 = .ok (.iload_n 1, 1) := by decide +kernel
theorem dX1_insertAt_31 : decode cX1_insertAt 31 = .ok (.iconst 1, 1) := by decide +kernel
theorem dX1_insertAt_32 : decode cX1_insertAt 32 = .ok (.iadd, 1) := by decide +kernel
theorem dX1_insertAt_33 : decode cX1_insertAt 33 = .ok (.aload_n 0, 1) := by decide +kernel
theorem dX1_insertAt_34 : decode cX1_insertAt 34 = .ok (.getfield 18, 3) := by decide +kernel
theorem dX1_insertAt_37 : decode cX1_insertAt 37 = .ok (.iload_n 1, 1) := by decide +kernel
theorem dX1_insertAt_38 : decode cX1_insertAt 38 = .ok (.isub, 1) := by decide +kernel
theorem dX1_insertAt_39 : decode cX1_insertAt 39 = .ok (.invokestatic 37, 3) := by decide +kernel
theorem dX1_insertAt_42 : decode cX1_insertAt 42 = .ok (.aload_n 0, 1) := by decide +kernel
theorem dX1_insertAt_43 : decode cX1_insertAt 43 = .ok (.getfield 9, 3) := by decide +kernel
theorem dX1_insertAt_46 : decode cX1_insertAt 46 = .ok (.iload_n 1, 1) := by decide +kernel
theorem dX1_insertAt_47 : decode cX1_insertAt 47 = .ok (.iload_n 2, 1) := by decide +kernel
theorem dX1_insertAt_48 : decode cX1_insertAt 48 = .ok (.iastore, 1) := by decide +kernel
theorem dX1_insertAt_49 : decode cX1_insertAt 49 = .ok (.aload_n 0, 1) := by decide +kernel
theorem dX1_insertAt_50 : decode cX1_insertAt 50 = .ok (.getfield 15, 3) := by decide +kernel
theorem dX1_insertAt_53 : decode cX1_insertAt 53 = .ok (.iload_n 1, 1) := by decide +kernel
theorem dX1_insertAt_54 : decode cX1_insertAt 54 = .ok (.iload_n 3, 1) := by decide +kernel
theorem dX1_insertAt_55 : decode cX1_insertAt 55 = .ok (.iastore, 1) := by decide +kernel
theorem dX1_insertAt_56 : decode cX1_insertAt 56 = .ok (.aload_n 0, 1) := by decide +kernel
theorem dX1_insertAt_57 : decode cX1_insertAt 57 = .ok (.dup, 1) := by decide +kernel
theorem dX1_insertAt_58 : decode cX1_insertAt 58 = .ok (.getfield 18, 3) := by decide +kernel
theorem dX1_insertAt_61 : decode cX1_insertAt 61 = .ok (.iconst 1, 1) := by decide +kernel
theorem dX1_insertAt_62 : decode cX1_insertAt 62 = .ok (.iadd, 1) := by decide +kernel
theorem dX1_insertAt_63 : decode cX1_insertAt 63 = .ok (.putfield 18, 3) := by decide +kernel
theorem dX1_insertAt_66 : decode cX1_insertAt 66 = .ok (.return_, 1) := by decide +kernel
theorem dX1_dropBetween_0 : decode cX1_dropBetween 0 = .ok (.aload_n 0, 1) := by decide +kernel
theorem dX1_dropBetween_1 : decode cX1_dropBetween 1 = .ok (.getfield 9, 3) := by decide +kernel
theorem dX1_dropBetween_4 : decode cX1_dropBetween 4 = .ok (.iload_n 2, 1) := by decide +kernel
theorem dX1_dropBetween_5 : decode cX1_dropBetween 5 = .ok (.aload_n 0, 1) := by decide +kernel
theorem dX1_dropBetween_6 : decode cX1_dropBetween 6 = .ok (.getfield 9, 3) := by decide +kernel
theorem dX1_dropBetween_9 : decode cX1_dropBetween 9 = .ok (.iload_n 1, 1) := by decide +kernel
theorem dX1_dropBetween_10 : decode cX1_dropBetween 10 = .ok (.aload_n 0, 1) := by decide +kernel
theorem dX1_dropBetween_11 : decode cX1_dropBetween 11 = .ok (.getfield 18, 3) := by decide +kernel
theorem dX1_dropBetween_14 : decode cX1_dropBetween 14 = .ok (.iload_n 2, 1) := by decide +kernel
theorem dX1_dropBetween_15 : decode cX1_dropBetween 15 = .ok (.isub, 1) := by decide +kernel
theorem dX1_dropBetween_16 : decode cX1_dropBetween 16 = .ok (.invokestatic 37, 3) := by decide +kernel
theorem dX1_dropBetween_19 : decode cX1_dropBetween 19 = .ok (.aload_n 0, 1) := by decide +kernel
theorem dX1_dropBetween_20 : decode cX1_dropBetween 20 = .ok (.getfield 15, 3) := by decide +kernel
theorem dX1_dropBetween_23 : decode cX1_dropBetween 23 = .ok (.iload_n 2, 1) := by decide +kernel
theorem dX1_dropBetween_24 : decode cX1_dropBetween 24 = .ok (.aload_n 0, 1) := by decide +kernel
theorem dX1_dropBetween_25 : decode cX1_dropBetween 25 = .ok (.getfield 15, 3) := by decide +kernel
theorem dX1_dropBetween_28 : decode cX1_dropBetween 28 = .ok (.iload_n 1, 1) := by decide +kernel
theorem dX1_dropBetween_29 : decode cX1_dropBetween 29 = .ok (.aload_n 0, 1) := by decide +kernel
theorem dX1_dropBetween_30 : decode cX1_dropBetween 30 = .ok (.getfield 18, 3) := by decide +kernel
theorem dX1_dropBetween_33 : decode cX1_dropBetween 33 = .ok (.iload_n 2, 1) := by decide +kernel
theorem dX1_dropBetween_34 : decode cX1_dropBetween 34 = .ok (.isub, 1) := by decide +kernel
theorem dX1_dropBetween_35 : decode cX1_dropBetween 35 = .ok (.invokestatic 37, 3) := by decide +kernel
theorem dX1_dropBetween_38 : decode cX1_dropBetween 38 = .ok (.aload_n 0, 1) := by decide +kernel
theorem dX1_dropBetween_39 : decode cX1_dropBetween 39 = .ok (.dup, 1) := by decide +kernel
theorem dX1_dropBetween_40 : decode cX1_dropBetween 40 = .ok (.getfield 18, 3) := by decide +kernel
theorem dX1_dropBetween_43 : decode cX1_dropBetween 43 = .ok (.iload_n 2, 1) := by decide +kernel
theorem dX1_dropBetween_44 : decode cX1_dropBetween 44 = .ok (.iload_n 1, 1) := by decide +kernel
theorem dX1_dropBetween_45 : decode cX1_dropBetween 45 = .ok (.isub, 1) := by decide +kernel
theorem dX1_dropBetween_46 : decode cX1_dropBetween 46 = .ok (.isub, 1) := by decide +kernel
theorem dX1_dropBetween_47 : decode cX1_dropBetween 47 = .ok (.putfield 18, 3) := by decide +kernel
theorem dX1_dropBetween_50 : decode cX1_dropBetween 50 = .ok (.return_, 1) := by decide +kernel
theorem dX1_fill_0 : decode cX1_fill 0 = .ok (.iconst 0, 1) := by decide +kernel
theorem dX1_fill_1 : decode cX1_fill 1 = .ok (.istore 6, 2) := by decide +kernel
theorem dX1_fill_3 : decode cX1_fill 3 = .ok (.iload 6, 2) := by decide +kernel
theorem dX1_fill_5 : decode cX1_fill 5 = .ok (.iload_n 3, 1) := by decide +kernel
theorem dX1_fill_6 : decode cX1_fill 6 = .ok (.if_icmp .ge 41, 3) := by decide +kernel
theorem dX1_fill_9 : decode cX1_fill 9 = .ok (.iload_n 1, 1) := by decide +kernel
theorem dX1_fill_10 : decode cX1_fill 10 = .ok (.iload_n 2, 1) := by decide +kernel
theorem dX1_fill_11 : decode cX1_fill 11 = .ok (.iload 6, 2) := by decide +kernel
theorem dX1_fill_13 : decode cX1_fill 13 = .ok (.imul, 1) := by decide +kernel
theorem dX1_fill_14 : decode cX1_fill 14 = .ok (.iadd, 1) := by decide +kernel
theorem dX1_fill_15 : decode cX1_fill 15 = .ok (.istore 7, 2) := by decide +kernel
theorem dX1_fill_17 : decode cX1_fill 17 = .ok (.aload_n 0, 1) := by decide +kernel
theorem dX1_fill_18 : decode cX1_fill 18 = .ok (.getfield 9, 3) := by decide +kernel
theorem dX1_fill_21 : decode cX1_fill 21 = .ok (.iload 6, 2) := by decide +kernel
theorem dX1_fill_23 : decode cX1_fill 23 = .ok (.iload 7, 2) := by decide +kernel
theorem dX1_fill_25 : decode cX1_fill 25 = .ok (.iastore, 1) := by decide +kernel
theorem dX1_fill_26 : decode cX1_fill 26 = .ok (.aload_n 0, 1) := by decide +kernel
theorem dX1_fill_27 : decode cX1_fill 27 = .ok (.getfield 15, 3) := by decide +kernel
theorem dX1_fill_30 : decode cX1_fill 30 = .ok (.iload 6, 2) := by decide +kernel
theorem dX1_fill_32 : decode cX1_fill 32 = .ok (.iload 4, 2) := by decide +kernel
theorem dX1_fill_34 : decode cX1_fill 34 = .ok (.iload 7, 2) := by decide +kernel
theorem dX1_fill_36 : decode cX1_fill 36 = .ok (.imul, 1) := by decide +kernel
theorem dX1_fill_37 : decode cX1_fill 37 = .ok (.iload 5, 2) := by decide +kernel
theorem dX1_fill_39 : decode cX1_fill 39 = .ok (.iadd, 1) := by decide +kernel
theorem dX1_fill_40 : decode cX1_fill 40 = .ok (.iastore, 1) := by decide +kernel
theorem dX1_fill_41 : decode cX1_fill 41 = .ok (.iinc 6 1, 3) := by decide +kernel
theorem dX1_fill_44 : decode cX1_fill 44 = .ok (.goto (-41), 3) := by decide +kernel
theorem dX1_fill_47 : decode cX1_fill 47 = .ok (.aload_n 0, 1) := by decide +kernel
theorem dX1_fill_48 : decode cX1_fill 48 = .ok (.iload_n 3, 1) := by decide +kernel
theorem dX1_fill_49 : decode cX1_fill 49 = .ok (.putfield 18, 3) := by decide +kernel
theorem dX1_fill_52 : decode cX1_fill 52 = .ok (.return_, 1) := by decide +kernel
theorem dX1_copyFrom_0 : decode cX1_copyFrom 0 = .ok (.aload_n 1, 1) := by decide +kernel
theorem dX1_copyFrom_1 : decode cX1_copyFrom 1 = .ok (.getfield 9, 3) := by decide +kernel
theorem dX1_copyFrom_4 : decode cX1_copyFrom 4 = .ok (.iconst 0, 1) := by decide +kernel
theorem dX1_copyFrom_5 : decode cX1_copyFrom 5 = .ok (.aload_n 0, 1) := by decide +kernel
theorem dX1_copyFrom_6 : decode cX1_copyFrom 6 = .ok (.getfield 9, 3) := by decide +kernel
theorem dX1_copyFrom_9 : decode cX1_copyFrom 9 = .ok (.iconst 0, 1) := by decide +kernel
theorem dX1_copyFrom_10 : decode cX1_copyFrom 10 = .ok (.aload_n 1, 1) := by decide +kernel
theorem dX1_copyFrom_11 : decode cX1_copyFrom 11 = .ok (.getfield 18, 3) := by decide +kernel
theorem dX1_copyFrom_14 : decode cX1_copyFrom 14 = .ok (.invokestatic 37, 3) := by decide +kernel
theorem dX1_copyFrom_17 : decode cX1_copyFrom 17 = .ok (.aload_n 1, 1) := by decide +kernel
theorem dX1_copyFrom_18 : decode cX1_copyFrom 18 = .ok (.getfield 15, 3) := by decide +kernel
theorem dX1_copyFrom_21 : decode cX1_copyFrom 21 = .ok (.iconst 0, 1) := by decide +kernel
theorem dX1_copyFrom_22 : decode cX1_copyFrom 22 = .ok (.aload_n 0, 1) := by decide +kernel
theorem dX1_copyFrom_23 : decode cX1_copyFrom 23 = .ok (.getfield 15, 3) := by decide +kernel
theorem dX1_copyFrom_26 : decode cX1_copyFrom 26 = .ok (.iconst 0, 1) := by decide +kernel
theorem dX1_copyFrom_27 : decode cX1_copyFrom 27 = .ok (.aload_n 1, 1) := by decide +kernel
theorem dX1_copyFrom_28 : decode cX1_copyFrom 28 = .ok (.getfield 18, 3) := by decide +kernel
theorem dX1_copyFrom_31 : decode cX1_copyFrom 31 = .ok (.invokestatic 37, 3) := by decide +kernel
theorem dX1_copyFrom_34 : decode cX1_copyFrom 34 = .ok (.aload_n 0, 1) := by decide +kernel
theorem dX1_copyFrom_35 : decode cX1_copyFrom 35 = .ok (.aload_n 1, 1) := by decide +kernel
theorem dX1_copyFrom_36 : decode cX1_copyFrom 36 = .ok (.getfield 18, 3) := by decide +kernel
theorem dX1_copyFrom_39 : decode cX1_copyFrom 39 = .ok (.putfield 18, 3) := by decide +kernel
theorem dX1_copyFrom_42 : decode cX1_copyFrom 42 = .ok (.return_, 1) := by decide +kernel
set_option maxRecDepth 20000 in
theorem ggX1_countShared_X1_hasAt : GoodIn wsX1_countShared wsX1_hasAt := goodIn_r _ [8, 2, 9, 10, 11, 7, 12, 1, 13, 14, 15] (by decide +kernel) (by decide +kernel)
set_option maxRecDepth 20000 in
theorem gX1_countShared_X1_hasAt : GoodIn wsX1_countShared (wsV RX1 30 RX1 yX1_hasAt wsX1_hasAt) := goodIn_app (goodIn_of _ (by decide +kernel)) ggX1_countShared_X1_hasAt
theorem dX1_countShared_0 : decode cX1_countShared 0 = .ok (.iconst 0, 1) := by decide +kernel
theorem dX1_countShared_1 : decode cX1_countShared 1 = .ok (.istore_n 3, 1) := by decide +kernel
theorem dX1_countShared_2 : decode cX1_countShared 2 = .ok (.iconst 0, 1) := by decide +kernel
theorem dX1_countShared_3 : decode cX1_countShared 3 = .ok (.istore 4, 2) := by decide +kernel
theorem dX1_countShared_5 : decode cX1_countShared 5 = .ok (.iconst 0, 1) := by decide +kernel
theorem dX1_countShared_6 : decode cX1_countShared 6 = .ok (.istore 5, 2) := by decide +kernel
theorem dX1_countShared_8 : decode cX1_countShared 8 = .ok (.iload 5, 2) := by decide +kernel
theorem dX1_countShared_10 : decode cX1_countShared 10 = .ok (.aload_n 0, 1) := by decide +kernel
theorem dX1_countShared_11 : decode cX1_countShared 11 = .ok (.getfield 18, 3) := by decide +kernel
theorem dX1_countShared_14 : decode cX1_countShared 14 = .ok (.if_icmp .ge 81, 3) := by decide +kernel
theorem dX1_countShared_17 : decode cX1_countShared 17 = .ok (.iload 4, 2) := by decide +kernel
theorem dX1_countShared_19 : decode cX1_countShared 19 = .ok (.aload_n 1, 1) := by decide +kernel
theorem dX1_countShared_20 : decode cX1_countShared 20 = .ok (.getfield 18, 3) := by decide +kernel
theorem dX1_countShared_23 : decode cX1_countShared 23 = .ok (.if_icmp .ge 26, 3) := by decide +kernel
theorem dX1_countShared_26 : decode cX1_countShared 26 = .ok (.aload_n 1, 1) := by decide +kernel
theorem dX1_countShared_27 : decode cX1_countShared 27 = .ok (.getfield 9, 3) := by decide +kernel
theorem dX1_countShared_30 : decode cX1_countShared 30 = .ok (.iload 4, 2) := by decide +kernel
theorem dX1_countShared_32 : decode cX1_countShared 32 = .ok (.iaload, 1) := by decide +kernel
theorem dX1_countShared_33 : decode cX1_countShared 33 = .ok (.aload_n 0, 1) := by decide +kernel
theorem dX1_countShared_34 : decode cX1_countShared 34 = .ok (.getfield 9, 3) := by decide +kernel
theorem dX1_countShared_37 : decode cX1_countShared 37 = .ok (.iload 5, 2) := by decide +kernel
theorem dX1_countShared_39 : decode cX1_countShared 39 = .ok (.iaload, 1) := by decide +kernel
theorem dX1_countShared_40 : decode cX1_countShared 40 = .ok (.if_icmp .ge 9, 3) := by decide +kernel
theorem dX1_countShared_43 : decode cX1_countShared 43 = .ok (.iinc 4 1, 3) := by decide +kernel
theorem dX1_countShared_46 : decode cX1_countShared 46 = .ok (.goto (-29), 3) := by decide +kernel
theorem dX1_countShared_49 : decode cX1_countShared 49 = .ok (.aload_n 1, 1) := by decide +kernel
theorem dX1_countShared_50 : decode cX1_countShared 50 = .ok (.iload 4, 2) := by decide +kernel
theorem dX1_countShared_52 : decode cX1_countShared 52 = .ok (.aload_n 0, 1) := by decide +kernel
theorem dX1_countShared_53 : decode cX1_countShared 53 = .ok (.getfield 9, 3) := by decide +kernel
theorem dX1_countShared_56 : decode cX1_countShared 56 = .ok (.iload 5, 2) := by decide +kernel
theorem dX1_countShared_58 : decode cX1_countShared 58 = .ok (.iaload, 1) := by decide +kernel
theorem dX1_countShared_59 : decode cX1_countShared 59 = .ok (.invokevirtual 30, 3) := by decide +kernel
theorem dX1_countShared_62 : decode cX1_countShared 62 = .ok (.ifCond .eq 27, 3) := by decide +kernel
theorem dX1_countShared_65 : decode cX1_countShared 65 = .ok (.iload_n 2, 1) := by decide +kernel
theorem dX1_countShared_66 : decode cX1_countShared 66 = .ok (.ifCond .eq 20, 3) := by decide +kernel
theorem dX1_countShared_69 : decode cX1_countShared 69 = .ok (.aload_n 1, 1) := by decide +kernel
theorem dX1_countShared_70 : decode cX1_countShared 70 = .ok (.getfield 15, 3) := by decide +kernel
theorem dX1_countShared_73 : decode cX1_countShared 73 = .ok (.iload 4, 2) := by decide +kernel
theorem dX1_countShared_75 : decode cX1_countShared 75 = .ok (.iaload, 1) := by decide +kernel
theorem dX1_countShared_76 : decode cX1_countShared 76 = .ok (.aload_n 0, 1) := by decide +kernel
theorem dX1_countShared_77 : decode cX1_countShared 77 = .ok (.getfield 15, 3) := by decide +kernel
theorem dX1_countShared_80 : decode cX1_countShared 80 = .ok (.iload 5, 2) := by decide +kernel
theorem dX1_countShared_82 : decode cX1_countShared 82 = .ok (.iaload, 1) := by decide +kernel
theorem dX1_countShared_83 : decode cX1_countShared 83 = .ok (.if_icmp .ne 6, 3) := by decide +kernel
theorem dX1_countShared_86 : decode cX1_countShared 86 = .ok (.iinc 3 1, 3) := by decide +kernel
theorem dX1_countShared_89 : decode cX1_countShared 89 = .ok (.iinc 5 1, 3) := by decide +kernel
theorem dX1_countShared_92 : decode cX1_countShared 92 = .ok (.goto (-84), 3) := by decide +kernel
theorem dX1_countShared_95 : decode cX1_countShared 95 = .ok (.iload_n 3, 1) := by decide +kernel
theorem dX1_countShared_96 : decode cX1_countShared 96 = .ok (.ireturn, 1) := by decide +kernel
theorem dX1_countAlikeAtStart_0 : decode cX1_countAlikeAtStart 0 = .ok (.aload_n 0, 1) := by decide +kernel
theorem dX1_countAlikeAtStart_1 : decode cX1_countAlikeAtStart 1 = .ok (.getfield 18, 3) := by decide +kernel
theorem dX1_countAlikeAtStart_4 : decode cX1_countAlikeAtStart 4 = .ok (.aload_n 1, 1) := by decide +kernel
theorem dX1_countAlikeAtStart_5 : decode cX1_countAlikeAtStart 5 = .ok (.getfield 18, 3) := by decide +kernel
theorem dX1_countAlikeAtStart_8 : decode cX1_countAlikeAtStart 8 = .ok (.invokestatic 43, 3) := by decide +kernel
theorem dX1_countAlikeAtStart_11 : decode cX1_countAlikeAtStart 11 = .ok (.istore_n 2, 1) := by decide +kernel
theorem dX1_countAlikeAtStart_12 : decode cX1_countAlikeAtStart 12 = .ok (.iconst 0, 1) := by decide +kernel
theorem dX1_countAlikeAtStart_13 : decode cX1_countAlikeAtStart 13 = .ok (.istore_n 3, 1) := by decide +kernel
theorem dX1_countAlikeAtStart_14 : decode cX1_countAlikeAtStart 14 = .ok (.iload_n 3, 1) := by decide +kernel
theorem dX1_countAlikeAtStart_15 : decode cX1_countAlikeAtStart 15 = .ok (.iload_n 2, 1) := by decide +kernel
theorem dX1_countAlikeAtStart_16 : decode cX1_countAlikeAtStart 16 = .ok (.if_icmp .ge 39, 3) := by decide +kernel
theorem dX1_countAlikeAtStart_19 : decode cX1_countAlikeAtStart 19 = .ok (.aload_n 0, 1) := by decide +kernel
theorem dX1_countAlikeAtStart_20 : decode cX1_countAlikeAtStart 20 = .ok (.getfield 9, 3) := by decide +kernel
theorem dX1_countAlikeAtStart_23 : decode cX1_countAlikeAtStart 23 = .ok (.iload_n 3, 1) := by decide +kernel
theorem dX1_countAlikeAtStart_24 : decode cX1_countAlikeAtStart 24 = .ok (.iaload, 1) := by decide +kernel
theorem dX1_countAlikeAtStart_25 : decode cX1_countAlikeAtStart 25 = .ok (.aload_n 1, 1) := by decide +kernel
theorem dX1_countAlikeAtStart_26 : decode cX1_countAlikeAtStart 26 = .ok (.getfield 9, 3) := by decide +kernel
theorem dX1_countAlikeAtStart_29 : decode cX1_countAlikeAtStart 29 = .ok (.iload_n 3, 1) := by decide +kernel
theorem dX1_countAlikeAtStart_30 : decode cX1_countAlikeAtStart 30 = .ok (.iaload, 1) := by decide +kernel
theorem dX1_countAlikeAtStart_31 : decode cX1_countAlikeAtStart 31 = .ok (.if_icmp .ne 24, 3) := by decide +kernel
theorem dX1_countAlikeAtStart_34 : decode cX1_countAlikeAtStart 34 = .ok (.aload_n 0, 1) := by decide +kernel
theorem dX1_countAlikeAtStart_35 : decode cX1_countAlikeAtStart 35 = .ok (.getfield 15, 3) := by decide +kernel
theorem dX1_countAlikeAtStart_38 : decode cX1_countAlikeAtStart 38 = .ok (.iload_n 3, 1) := by decide +kernel
theorem dX1_countAlikeAtStart_39 : decode cX1_countAlikeAtStart 39 = .ok (.iaload, 1) := by decide +kernel
theorem dX1_countAlikeAtStart_40 : decode cX1_countAlikeAtStart 40 = .ok (.aload_n 1, 1) := by decide +kernel
theorem dX1_countAlikeAtStart_41 : decode cX1_countAlikeAtStart 41 = .ok (.getfield 15, 3) := by decide +kernel
theorem dX1_countAlikeAtStart_44 : decode cX1_countAlikeAtStart 44 = .ok (.iload_n 3, 1) := by decide +kernel
theorem dX1_countAlikeAtStart_45 : decode cX1_countAlikeAtStart 45 = .ok (.iaload, 1) := by decide +kernel
theorem dX1_countAlikeAtStart_46 : decode cX1_countAlikeAtStart 46 = .ok (.if_icmp .ne 9, 3) := by decide +kernel
theorem dX1_countAlikeAtStart_49 : decode cX1_countAlikeAtStart 49 = .ok (.iinc 3 1, 3) := by decide +kernel
theorem dX1_countAlikeAtStart_52 : decode cX1_countAlikeAtStart 52 = .ok (.goto (-38), 3) := by decide +kernel
theorem dX1_countAlikeAtStart_55 : decode cX1_countAlikeAtStart 55 = .ok (.iload_n 3, 1) := by decide +kernel
theorem dX1_countAlikeAtStart_56 : decode cX1_countAlikeAtStart 56 = .ok (.ireturn, 1) := by decide +kernel
set_option maxRecDepth 20000 in
theorem ggX1_takeOver_X1_hasAt : GoodIn wsX1_takeOver wsX1_hasAt := goodIn_r _ [8, 2, 9, 10, 11, 7, 12, 1, 13, 14, 15] (by decide +kernel) (by decide +kernel)
set_option maxRecDepth 20000 in
theorem gX1_takeOver_X1_hasAt : GoodIn wsX1_takeOver (wsV RX1 30 RX1 yX1_hasAt wsX1_hasAt) := goodIn_app (goodIn_of _ (by decide +kernel)) ggX1_takeOver_X1_hasAt
theorem dX1_takeOver_0 : decode cX1_takeOver 0 = .ok (.aload_n 0, 1) := by decide +kernel
theorem dX1_takeOver_1 : decode cX1_takeOver 1 = .ok (.getfield 18, 3) := by decide +kernel
theorem dX1_takeOver_4 : decode cX1_takeOver 4 = .ok (.iconst 1, 1) := by decide +kernel
theorem dX1_takeOver_5 : decode cX1_takeOver 5 = .ok (.isub, 1) := by decide +kernel
theorem dX1_takeOver_6 : decode cX1_takeOver 6 = .ok (.istore_n 3, 1) := by decide +kernel
theorem dX1_takeOver_7 : decode cX1_takeOver 7 = .ok (.iload_n 3, 1) := by decide +kernel
theorem dX1_takeOver_8 : decode cX1_takeOver 8 = .ok (.iload_n 2, 1) := by decide +kernel
theorem dX1_takeOver_9 : decode cX1_takeOver 9 = .ok (.iadd, 1) := by decide +kernel
theorem dX1_takeOver_10 : decode cX1_takeOver 10 = .ok (.istore 4, 2) := by decide +kernel
theorem dX1_takeOver_12 : decode cX1_takeOver 12 = .ok (.aload_n 1, 1) := by decide +kernel
theorem dX1_takeOver_13 : decode cX1_takeOver 13 = .ok (.getfield 18, 3) := by decide +kernel
theorem dX1_takeOver_16 : decode cX1_takeOver 16 = .ok (.iconst 1, 1) := by decide +kernel
theorem dX1_takeOver_17 : decode cX1_takeOver 17 = .ok (.isub, 1) := by decide +kernel
theorem dX1_takeOver_18 : decode cX1_takeOver 18 = .ok (.istore 5, 2) := by decide +kernel
theorem dX1_takeOver_20 : decode cX1_takeOver 20 = .ok (.iload 5, 2) := by decide +kernel
theorem dX1_takeOver_22 : decode cX1_takeOver 22 = .ok (.ifCond .lt 104, 3) := by decide +kernel
theorem dX1_takeOver_25 : decode cX1_takeOver 25 = .ok (.aload_n 1, 1) := by decide +kernel
theorem dX1_takeOver_26 : decode cX1_takeOver 26 = .ok (.getfield 9, 3) := by decide +kernel
theorem dX1_takeOver_29 : decode cX1_takeOver 29 = .ok (.iload 5, 2) := by decide +kernel
theorem dX1_takeOver_31 : decode cX1_takeOver 31 = .ok (.iaload, 1) := by decide +kernel
theorem dX1_takeOver_32 : decode cX1_takeOver 32 = .ok (.istore 6, 2) := by decide +kernel
theorem dX1_takeOver_34 : decode cX1_takeOver 34 = .ok (.iload_n 3, 1) := by decide +kernel
theorem dX1_takeOver_35 : decode cX1_takeOver 35 = .ok (.ifCond .lt 49, 3) := by decide +kernel
theorem dX1_takeOver_38 : decode cX1_takeOver 38 = .ok (.aload_n 0, 1) := by decide +kernel
theorem dX1_takeOver_39 : decode cX1_takeOver 39 = .ok (.getfield 9, 3) := by decide +kernel
theorem dX1_takeOver_42 : decode cX1_takeOver 42 = .ok (.iload_n 3, 1) := by decide +kernel
theorem dX1_takeOver_43 : decode cX1_takeOver 43 = .ok (.iaload, 1) := by decide +kernel
theorem dX1_takeOver_44 : decode cX1_takeOver 44 = .ok (.iload 6, 2) := by decide +kernel
theorem dX1_takeOver_46 : decode cX1_takeOver 46 = .ok (.if_icmp .le 38, 3) := by decide +kernel
theorem dX1_takeOver_49 : decode cX1_takeOver 49 = .ok (.aload_n 0, 1) := by decide +kernel
theorem dX1_takeOver_50 : decode cX1_takeOver 50 = .ok (.getfield 9, 3) := by decide +kernel
theorem dX1_takeOver_53 : decode cX1_takeOver 53 = .ok (.iload 4, 2) := by decide +kernel
theorem dX1_takeOver_55 : decode cX1_takeOver 55 = .ok (.aload_n 0, 1) := by decide +kernel
theorem dX1_takeOver_56 : decode cX1_takeOver 56 = .ok (.getfield 9, 3) := by decide +kernel
theorem dX1_takeOver_59 : decode cX1_takeOver 59 = .ok (.iload_n 3, 1) := by decide +kernel
theorem dX1_takeOver_60 : decode cX1_takeOver 60 = .ok (.iaload, 1) := by decide +kernel
theorem dX1_takeOver_61 : decode cX1_takeOver 61 = .ok (.iastore, 1) := by decide +kernel
theorem dX1_takeOver_62 : decode cX1_takeOver 62 = .ok (.aload_n 0, 1) := by decide +kernel
theorem dX1_takeOver_63 : decode cX1_takeOver 63 = .ok (.getfield 15, 3) := by decide +kernel
theorem dX1_takeOver_66 : decode cX1_takeOver 66 = .ok (.iload 4, 2) := by decide +kernel
theorem dX1_takeOver_68 : decode cX1_takeOver 68 = .ok (.aload_n 0, 1) := by decide +kernel
theorem dX1_takeOver_69 : decode cX1_takeOver 69 = .ok (.getfield 15, 3) := by decide +kernel
theorem dX1_takeOver_72 : decode cX1_takeOver 72 = .ok (.iload_n 3, 1) := by decide +kernel
theorem dX1_takeOver_73 : decode cX1_takeOver 73 = .ok (.iaload, 1) := by decide +kernel
theorem dX1_takeOver_74 : decode cX1_takeOver 74 = .ok (.iastore, 1) := by decide +kernel
theorem dX1_takeOver_75 : decode cX1_takeOver 75 = .ok (.iinc 3 (-1), 3) := by decide +kernel
theorem dX1_takeOver_78 : decode cX1_takeOver 78 = .ok (.iinc 4 (-1), 3) := by decide +kernel
theorem dX1_takeOver_81 : decode cX1_takeOver 81 = .ok (.goto (-47), 3) := by decide +kernel
theorem dX1_takeOver_84 : decode cX1_takeOver 84 = .ok (.aload_n 0, 1) := by decide +kernel
theorem dX1_takeOver_85 : decode cX1_takeOver 85 = .ok (.iload_n 3, 1) := by decide +kernel
theorem dX1_takeOver_86 : decode cX1_takeOver 86 = .ok (.iload 6, 2) := by decide +kernel
theorem dX1_takeOver_88 : decode cX1_takeOver 88 = .ok (.invokevirtual 30, 3) := by decide +kernel
theorem dX1_takeOver_91 : decode cX1_takeOver 91 = .ok (.ifCond .ne 29, 3) := by decide +kernel
theorem dX1_takeOver_94 : decode cX1_takeOver 94 = .ok (.aload_n 0, 1) := by decide +kernel
theorem dX1_takeOver_95 : decode cX1_takeOver 95 = .ok (.getfield 9, 3) := by decide +kernel
theorem dX1_takeOver_98 : decode cX1_takeOver 98 = .ok (.iload 4, 2) := by decide +kernel
theorem dX1_takeOver_100 : decode cX1_takeOver 100 = .ok (.iload 6, 2) := by decide +kernel
theorem dX1_takeOver_102 : decode cX1_takeOver 102 = .ok (.iastore, 1) := by decide +kernel
theorem dX1_takeOver_103 : decode cX1_takeOver 103 = .ok (.aload_n 0, 1) := by decide +kernel
theorem dX1_takeOver_104 : decode cX1_takeOver 104 = .ok (.getfield 15, 3) := by decide +kernel
theorem dX1_takeOver_107 : decode cX1_takeOver 107 = .ok (.iload 4, 2) := by decide +kernel
theorem dX1_takeOver_109 : decode cX1_takeOver 109 = .ok (.aload_n 1, 1) := by decide +kernel
theorem dX1_takeOver_110 : decode cX1_takeOver 110 = .ok (.getfield 15, 3) := by decide +kernel
theorem dX1_takeOver_113 : decode cX1_takeOver 113 = .ok (.iload 5, 2) := by decide +kernel
theorem dX1_takeOver_115 : decode cX1_takeOver 115 = .ok (.iaload, 1) := by decide +kernel
theorem dX1_takeOver_116 : decode cX1_takeOver 116 = .ok (.iastore, 1) := by decide +kernel
theorem dX1_takeOver_117 : decode cX1_takeOver 117 = .ok (.iinc 4 (-1), 3) := by decide +kernel
theorem dX1_takeOver_120 : decode cX1_takeOver 120 = .ok (.iinc 5 (-1), 3) := by decide +kernel
theorem dX1_takeOver_123 : decode cX1_takeOver 123 = .ok (.goto (-103), 3) := by decide +kernel
theorem dX1_takeOver_126 : decode cX1_takeOver 126 = .ok (.aload_n 0, 1) := by decide +kernel
theorem dX1_takeOver_127 : decode cX1_takeOver 127 = .ok (.dup, 1) := by decide +kernel
theorem dX1_takeOver_128 : decode cX1_takeOver 128 = .ok (.getfield 18, 3) := by decide +kernel
theorem dX1_takeOver_131 : decode cX1_takeOver 131 = .ok (.iload_n 2, 1) := by decide +kernel
theorem dX1_takeOver_132 : decode cX1_takeOver 132 = .ok (.iadd, 1) := by decide +kernel
theorem dX1_takeOver_133 : decode cX1_takeOver 133 = .ok (.putfield 18, 3) := by decide +kernel
theorem dX1_takeOver_136 : decode cX1_takeOver 136 = .ok (.return_, 1) := by decide +kernel
theorem dX1_countWrong_0 : decode cX1_countWrong 0 = .ok (.iload_n 1, 1) := by decide +kernel
theorem dX1_countWrong_1 : decode cX1_countWrong 1 = .ok (.ifCond .ne 16, 3) := by decide +kernel
theorem dX1_countWrong_4 : decode cX1_countWrong 4 = .ok (.aload_n 0, 1) := by decide +kernel
theorem dX1_countWrong_5 : decode cX1_countWrong 5 = .ok (.getfield 18, 3) := by decide +kernel
theorem dX1_countWrong_8 : decode cX1_countWrong 8 = .ok (.ifCond .ne 7, 3) := by decide +kernel
theorem dX1_countWrong_11 : decode cX1_countWrong 11 = .ok (.iconst 0, 1) := by decide +kernel
theorem dX1_countWrong_12 : decode cX1_countWrong 12 = .ok (.goto 4, 3) := by decide +kernel
theorem dX1_countWrong_15 : decode cX1_countWrong 15 = .ok (.iconst 1, 1) := by decide +kernel
theorem dX1_countWrong_16 : decode cX1_countWrong 16 = .ok (.ireturn, 1) := by decide +kernel
theorem dX1_countWrong_17 : decode cX1_countWrong 17 = .ok (.aload_n 0, 1) := by decide +kernel
theorem dX1_countWrong_18 : decode cX1_countWrong 18 = .ok (.getfield 18, 3) := by decide +kernel
theorem dX1_countWrong_21 : decode cX1_countWrong 21 = .ok (.ifCond .lt 13, 3) := by decide +kernel
theorem dX1_countWrong_24 : decode cX1_countWrong 24 = .ok (.aload_n 0, 1) := by decide +kernel
theorem dX1_countWrong_25 : decode cX1_countWrong 25 = .ok (.getfield 18, 3) := by decide +kernel
theorem dX1_countWrong_28 : decode cX1_countWrong 28 = .ok (.sipush 600, 3) := by decide +kernel
theorem dX1_countWrong_31 : decode cX1_countWrong 31 = .ok (.if_icmp .le 5, 3) := by decide +kernel
theorem dX1_countWrong_34 : decode cX1_countWrong 34 = .ok (.iconst 1, 1) := by decide +kernel
theorem dX1_countWrong_35 : decode cX1_countWrong 35 = .ok (.ireturn, 1) := by decide +kernel
theorem dX1_countWrong_36 : decode cX1_countWrong 36 = .ok (.iconst 0, 1) := by decide +kernel
theorem dX1_countWrong_37 : decode cX1_countWrong 37 = .ok (.istore_n 2, 1) := by decide +kernel
theorem dX1_countWrong_38 : decode cX1_countWrong 38 = .ok (.iconst 1, 1) := by decide +kernel
theorem dX1_countWrong_39 : decode cX1_countWrong 39 = .ok (.istore_n 3, 1) := by decide +kernel
theorem dX1_countWrong_40 : decode cX1_countWrong 40 = .ok (.iload_n 3, 1) := by decide +kernel
theorem dX1_countWrong_41 : decode cX1_countWrong 41 = .ok (.aload_n 0, 1) := by decide +kernel
theorem dX1_countWrong_42 : decode cX1_countWrong 42 = .ok (.getfield 18, 3) := by decide +kernel
theorem dX1_countWrong_45 : decode cX1_countWrong 45 = .ok (.if_icmp .ge 29, 3) := by decide +kernel
theorem dX1_countWrong_48 : decode cX1_countWrong 48 = .ok (.aload_n 0, 1) := by decide +kernel
theorem dX1_countWrong_49 : decode cX1_countWrong 49 = .ok (.getfield 9, 3) := by decide +kernel
theorem dX1_countWrong_52 : decode cX1_countWrong 52 = .ok (.iload_n 3, 1) := by decide +kernel
theorem dX1_countWrong_53 : decode cX1_countWrong 53 = .ok (.iconst 1, 1) := by decide +kernel
theorem dX1_countWrong_54 : decode cX1_countWrong 54 = .ok (.isub, 1) := by decide +kernel
theorem dX1_countWrong_55 : decode cX1_countWrong 55 = .ok (.iaload, 1) := by decide +kernel
theorem dX1_countWrong_56 : decode cX1_countWrong 56 = .ok (.aload_n 0, 1) := by decide +kernel
theorem dX1_countWrong_57 : decode cX1_countWrong 57 = .ok (.getfield 9, 3) := by decide +kernel
theorem dX1_countWrong_60 : decode cX1_countWrong 60 = .ok (.iload_n 3, 1) := by decide +kernel
theorem dX1_countWrong_61 : decode cX1_countWrong 61 = .ok (.iaload, 1) := by decide +kernel
theorem dX1_countWrong_62 : decode cX1_countWrong 62 = .ok (.if_icmp .lt 6, 3) := by decide +kernel
theorem dX1_countWrong_65 : decode cX1_countWrong 65 = .ok (.iinc 2 1, 3) := by decide +kernel
theorem dX1_countWrong_68 : decode cX1_countWrong 68 = .ok (.iinc 3 1, 3) := by decide +kernel
theorem dX1_countWrong_71 : decode cX1_countWrong 71 = .ok (.goto (-31), 3) := by decide +kernel
theorem dX1_countWrong_74 : decode cX1_countWrong 74 = .ok (.iload_n 2, 1) := by decide +kernel
theorem dX1_countWrong_75 : decode cX1_countWrong 75 = .ok (.ireturn, 1) := by decide +kernel
end
section
set_option maxRecDepth 20000 in
theorem ggX2_init_X1_init : GoodIn wsX2_init wsX1_init := goodIn_r _ [17, 18, 2, 3, 19, 20, 21, 27, 28, 29] (by decide +kernel) (by decide +kernel)
set_option maxRecDepth 20000 in
theorem gX2_init_X1_init_n9 : GoodIn wsX2_init (wsX1_init) := ggX2_init_X1_init
set_option maxRecDepth 20000 in
theorem ggX2_init_X0_init : GoodIn wsX2_init wsX0_init := goodIn_r _ [23, 24, 2, 3, 25, 5, 6, 26, 16, 17, 18, 19, 20, 21, 27, 28, 29, 35, 36, 37] (by decide +kernel) (by decide +kernel)
set_option maxRecDepth 20000 in
theorem gX2_init_X0_init_n33 : GoodIn wsX2_init (wsX0_init) := ggX2_init_X0_init
theorem dX2_init_0 : decode cX2_init 0 = .ok (.aload_n 0, 1) := by decide +kernel
theorem dX2_init_1 : decode cX2_init 1 = .ok (.invokespecial 1, 3) := by decide +kernel
theorem dX2_init_4 : decode cX2_init 4 = .ok (.aload_n 0, 1) := by decide +kernel
theorem dX2_init_5 : decode cX2_init 5 = .ok (.new 7, 3) := by decide +kernel
theorem dX2_init_8 : decode cX2_init 8 = .ok (.dup, 1) := by decide +kernel
theorem dX2_init_9 : decode cX2_init 9 = .ok (.invokespecial 9, 3) := by decide +kernel
theorem dX2_init_12 : decode cX2_init 12 = .ok (.putfield 10, 3) := by decide +kernel
theorem dX2_init_15 : decode cX2_init 15 = .ok (.aload_n 0, 1) := by decide +kernel
theorem dX2_init_16 : decode cX2_init 16 = .ok (.bipush 13, 2) := by decide +kernel
theorem dX2_init_18 : decode cX2_init 18 = .ok (.anewarray 7, 3) := by decide +kernel
theorem dX2_init_21 : decode cX2_init 21 = .ok (.putfield 16, 3) := by decide +kernel
theorem dX2_init_24 : decode cX2_init 24 = .ok (.aload_n 0, 1) := by decide +kernel
theorem dX2_init_25 : decode cX2_init 25 = .ok (.aload_n 0, 1) := by decide +kernel
theorem dX2_init_26 : decode cX2_init 26 = .ok (.getfield 16, 3) := by decide +kernel
theorem dX2_init_29 : decode cX2_init 29 = .ok (.arraylength, 1) := by decide +kernel
theorem dX2_init_30 : decode cX2_init 30 = .ok (.newarray .boolean, 2) := by decide +kernel
theorem dX2_init_32 : decode cX2_init 32 = .ok (.putfield 20, 3) := by decide +kernel
theorem dX2_init_35 : decode cX2_init 35 = .ok (.aload_n 0, 1) := by decide +kernel
theorem dX2_init_36 : decode cX2_init 36 = .ok (.getfield 16, 3) := by decide +kernel
theorem dX2_init_39 : decode cX2_init 39 = .ok (.iconst 0, 1) := by decide +kernel
theorem dX2_init_40 : decode cX2_init 40 = .ok (.aload_n 0, 1) := by decide +kernel
theorem dX2_init_41 : decode cX2_init 41 = .ok (.getfield 10, 3) := by decide +kernel
theorem dX2_init_44 : decode cX2_init 44 = .ok (.aastore, 1) := by decide +kernel
theorem dX2_init_45 : decode cX2_init 45 = .ok (.aload_n 0, 1) := by decide +kernel
theorem dX2_init_46 : decode cX2_init 46 = .ok (.getfield 20, 3) := by decide +kernel
theorem dX2_init_49 : decode cX2_init 49 = .ok (.iconst 0, 1) := by decide +kernel
theorem dX2_init_50 : decode cX2_init 50 = .ok (.iconst 1, 1) := by decide +kernel
theorem dX2_init_51 : decode cX2_init 51 = .ok (.bastore, 1) := by decide +kernel
theorem dX2_init_52 : decode cX2_init 52 = .ok (.iconst 1, 1) := by decide +kernel
theorem dX2_init_53 : decode cX2_init 53 = .ok (.istore_n 1, 1) := by decide +kernel
theorem dX2_init_54 : decode cX2_init 54 = .ok (.iload_n 1, 1) := by decide +kernel
theorem dX2_init_55 : decode cX2_init 55 = .ok (.aload_n 0, 1) := by decide +kernel
theorem dX2_init_56 : decode cX2_init 56 = .ok (.getfield 16, 3) := by decide +kernel
theorem dX2_init_59 : decode cX2_init 59 = .ok (.arraylength, 1) := by decide +kernel
theorem dX2_init_60 : decode cX2_init 60 = .ok (.if_icmp .ge 22, 3) := by decide +kernel
theorem dX2_init_63 : decode cX2_init 63 = .ok (.aload_n 0, 1) := by decide +kernel
theorem dX2_init_64 : decode cX2_init 64 = .ok (.getfield 16, 3) := by decide +kernel
theorem dX2_init_67 : decode cX2_init 67 = .ok (.iload_n 1, 1) := by decide +kernel
theorem dX2_init_68 : decode cX2_init 68 = .ok (.new 7, 3) := by decide +kernel
theorem dX2_init_71 : decode cX2_init 71 = .ok (.dup, 1) := by decide +kernel
theorem dX2_init_72 : decode cX2_init 72 = .ok (.invokespecial 9, 3) := by decide +kernel
theorem dX2_init_75 : decode cX2_init 75 = .ok (.aastore, 1) := by decide +kernel
theorem dX2_init_76 : decode cX2_init 76 = .ok (.iinc 1 1, 3) := by decide +kernel
theorem dX2_init_79 : decode cX2_init 79 = .ok (.goto (-25), 3) := by decide +kernel
theorem dX2_init_82 : decode cX2_init 82 = .ok (.aload_n 0, 1) := by decide +kernel
theorem dX2_init_83 : decode cX2_init 83 = .ok (.bipush 8, 2) := by decide +kernel
theorem dX2_init_85 : decode cX2_init 85 = .ok (.anewarray 24, 3) := by decide +kernel
theorem dX2_init_88 : decode cX2_init 88 = .ok (.putfield 26, 3) := by decide +kernel
theorem dX2_init_91 : decode cX2_init 91 = .ok (.aload_n 0, 1) := by decide +kernel
theorem dX2_init_92 : decode cX2_init 92 = .ok (.aload_n 0, 1) := by decide +kernel
theorem dX2_init_93 : decode cX2_init 93 = .ok (.getfield 26, 3) := by decide +kernel
theorem dX2_init_96 : decode cX2_init 96 = .ok (.arraylength, 1) := by decide +kernel
theorem dX2_init_97 : decode cX2_init 97 = .ok (.newarray .boolean, 2) := by decide +kernel
theorem dX2_init_99 : decode cX2_init 99 = .ok (.putfield 30, 3) := by decide +kernel
theorem dX2_init_102 : decode cX2_init 102 = .ok (.iconst 0, 1) := by decide +kernel
theorem dX2_init_103 : decode cX2_init 103 = .ok (.istore_n 1, 1) := by decide +kernel
theorem dX2_init_104 : decode cX2_init 104 = .ok (.iload_n 1, 1) := by decide +kernel
theorem dX2_init_105 : decode cX2_init 105 = .ok (.aload_n 0, 1) := by decide +kernel
theorem dX2_init_106 : decode cX2_init 106 = .ok (.getfield 26, 3) := by decide +kernel
theorem dX2_init_109 : decode cX2_init 109 = .ok (.arraylength, 1) := by decide +kernel
theorem dX2_init_110 : decode cX2_init 110 = .ok (.if_icmp .ge 22, 3) := by decide +kernel
theorem dX2_init_113 : decode cX2_init 113 = .ok (.aload_n 0, 1) := by decide +kernel
theorem dX2_init_114 : decode cX2_init 114 = .ok (.getfield 26, 3) := by decide +kernel
theorem dX2_init_117 : decode cX2_init 117 = .ok (.iload_n 1, 1) := by decide +kernel
theorem dX2_init_118 : decode cX2_init 118 = .ok (.new 24, 3) := by decide +kernel
theorem dX2_init_121 : decode cX2_init 121 = .ok (.dup, 1) := by decide +kernel
theorem dX2_init_122 : decode cX2_init 122 = .ok (.invokespecial 33, 3) := by decide +kernel
theorem dX2_init_125 : decode cX2_init 125 = .ok (.aastore, 1) := by decide +kernel
theorem dX2_init_126 : decode cX2_init 126 = .ok (.iinc 1 1, 3) := by decide +kernel
theorem dX2_init_129 : decode cX2_init 129 = .ok (.goto (-25), 3) := by decide +kernel
theorem dX2_init_132 : decode cX2_init 132 = .ok (.return_, 1) := by decide +kernel
set_option maxRecDepth 20000 in
theorem ggX2_put_X1_countBelow : GoodIn wsX2_put wsX1_countBelow := goodIn_r _ [10, 11, 12, 35, 36, 37] (by decide +kernel) (by decide +kernel)
set_option maxRecDepth 20000 in
theorem gX2_put_X1_countBelow : GoodIn wsX2_put (wsV RX2 34 RX1 yX1_countBelow wsX1_countBelow) := goodIn_app (goodIn_of _ (by decide +kernel)) ggX2_put_X1_countBelow
set_option maxRecDepth 20000 in
theorem ggX2_put_X1_hasAt : GoodIn wsX2_put wsX1_hasAt := goodIn_r _ [16, 12, 17, 18, 19, 9, 20, 11, 35, 36, 37] (by decide +kernel) (by decide +kernel)
set_option maxRecDepth 20000 in
theorem gX2_put_X1_hasAt : GoodIn wsX2_put (wsV RX2 38 RX1 yX1_hasAt wsX1_hasAt) := goodIn_app (goodIn_of _ (by decide +kernel)) ggX2_put_X1_hasAt
set_option maxRecDepth 20000 in
theorem ggX2_put_X1_insertAt : GoodIn wsX2_put wsX1_insertAt := goodIn_r _ [24, 12, 11, 25, 26, 27, 28, 29, 35, 36, 37] (by decide +kernel) (by decide +kernel)
set_option maxRecDepth 20000 in
theorem gX2_put_X1_insertAt : GoodIn wsX2_put (wsV RX2 53 RX1 yX1_insertAt wsX1_insertAt) := goodIn_app (goodIn_of _ (by decide +kernel)) ggX2_put_X1_insertAt
theorem dX2_put_0 : decode cX2_put 0 = .ok (.aload_n 0, 1) := by decide +kernel
theorem dX2_put_1 : decode cX2_put 1 = .ok (.getfield 10, 3) := by decide +kernel
theorem dX2_put_4 : decode cX2_put 4 = .ok (.iload_n 1, 1) := by decide +kernel
theorem dX2_put_5 : decode cX2_put 5 = .ok (.invokevirtual 34, 3) := by decide +kernel
theorem dX2_put_8 : decode cX2_put 8 = .ok (.istore_n 3, 1) := by decide +kernel
theorem dX2_put_9 : decode cX2_put 9 = .ok (.aload_n 0, 1) := by decide +kernel
theorem dX2_put_10 : decode cX2_put 10 = .ok (.getfield 10, 3) := by decide +kernel
theorem dX2_put_13 : decode cX2_put 13 = .ok (.iload_n 3, 1) := by decide +kernel
theorem dX2_put_14 : decode cX2_put 14 = .ok (.iload_n 1, 1) := by decide +kernel
theorem dX2_put_15 : decode cX2_put 15 = .ok (.invokevirtual 38, 3) := by decide +kernel
theorem dX2_put_18 : decode cX2_put 18 = .ok (.ifCond .eq 15, 3) := by decide +kernel
theorem dX2_put_21 : decode cX2_put 21 = .ok (.aload_n 0, 1) := by decide +kernel
theorem dX2_put_22 : decode cX2_put 22 = .ok (.getfield 10, 3) := by decide +kernel
theorem dX2_put_25 : decode cX2_put 25 = .ok (.getfield 42, 3) := by decide +kernel
theorem dX2_put_28 : decode cX2_put 28 = .ok (.iload_n 3, 1) := by decide +kernel
theorem dX2_put_29 : decode cX2_put 29 = .ok (.iload_n 2, 1) := by decide +kernel
theorem dX2_put_30 : decode cX2_put 30 = .ok (.iastore, 1) := by decide +kernel
theorem dX2_put_31 : decode cX2_put 31 = .ok (.iconst 0, 1) := by decide +kernel
theorem dX2_put_32 : decode cX2_put 32 = .ok (.ireturn, 1) := by decide +kernel
theorem dX2_put_33 : decode cX2_put 33 = .ok (.aload_n 0, 1) := by decide +kernel
theorem dX2_put_34 : decode cX2_put 34 = .ok (.getfield 10, 3) := by decide +kernel
theorem dX2_put_37 : decode cX2_put 37 = .ok (.getfield 46, 3) := by decide +kernel
theorem dX2_put_40 : decode cX2_put 40 = .ok (.sipush 600, 3) := by decide +kernel
theorem dX2_put_43 : decode cX2_put 43 = .ok (.if_icmp .lt 11, 3) := by decide +kernel
theorem dX2_put_46 : decode cX2_put 46 = .ok (.new 50, 3) := by decide +kernel
theorem dX2_put_49 : decode cX2_put 49 = .ok (.dup, 1) := by decide +kernel
theorem dX2_put_50 : decode cX2_put 50 = .ok (.invokespecial 52, 3) := by decide +kernel
theorem dX2_put_53 : decode cX2_put 53 = .ok (.athrow, 1) := by decide +kernel
theorem dX2_put_54 : decode cX2_put 54 = .ok (.aload_n 0, 1) := by decide +kernel
theorem dX2_put_55 : decode cX2_put 55 = .ok (.getfield 10, 3) := by decide +kernel
theorem dX2_put_58 : decode cX2_put 58 = .ok (.iload_n 3, 1) := by decide +kernel
theorem dX2_put_59 : decode cX2_put 59 = .ok (.iload_n 1, 1) := by decide +kernel
theorem dX2_put_60 : decode cX2_put 60 = .ok (.iload_n 2, 1) := by decide +kernel
theorem dX2_put_61 : decode cX2_put 61 = .ok (.invokevirtual 53, 3) := by decide +kernel
theorem dX2_put_64 : decode cX2_put 64 = .ok (.iconst 1, 1) := by decide +kernel
theorem dX2_put_65 : decode cX2_put 65 = .ok (.ireturn, 1) := by decide +kernel
set_option maxRecDepth 20000 in
theorem ggX2_remove_X1_countBelow : GoodIn wsX2_remove wsX1_countBelow := goodIn_r _ [9, 10, 11, 34, 35, 36] (by decide +kernel) (by decide +kernel)
set_option maxRecDepth 20000 in
theorem gX2_remove_X1_countBelow : GoodIn wsX2_remove (wsV RX2 34 RX1 yX1_countBelow wsX1_countBelow) := goodIn_app (goodIn_of _ (by decide +kernel)) ggX2_remove_X1_countBelow
set_option maxRecDepth 20000 in
theorem ggX2_remove_X1_hasAt : GoodIn wsX2_remove wsX1_hasAt := goodIn_r _ [15, 11, 16, 17, 18, 8, 19, 10, 34, 35, 36] (by decide +kernel) (by decide +kernel)
set_option maxRecDepth 20000 in
theorem gX2_remove_X1_hasAt : GoodIn wsX2_remove (wsV RX2 38 RX1 yX1_hasAt wsX1_hasAt) := goodIn_app (goodIn_of _ (by decide +kernel)) ggX2_remove_X1_hasAt
set_option maxRecDepth 20000 in
theorem ggX2_remove_X1_dropBetween : GoodIn wsX2_remove wsX1_dropBetween := goodIn_r _ [23, 11, 10, 24, 25, 26, 27, 28, 34, 35, 36] (by decide +kernel) (by decide +kernel)
set_option maxRecDepth 20000 in
theorem gX2_remove_X1_dropBetween : GoodIn wsX2_remove (wsV RX2 60 RX1 yX1_dropBetween wsX1_dropBetween) := goodIn_app (goodIn_of _ (by decide +kernel)) ggX2_remove_X1_dropBetween
theorem dX2_remove_0 : decode cX2_remove 0 = .ok (.aload_n 0, 1) := by decide +kernel
theorem dX2_remove_1 : decode cX2_remove 1 = .ok (.getfield 10, 3) := by decide +kernel
theorem dX2_remove_4 : decode cX2_remove 4 = .ok (.iload_n 1, 1) := by decide +kernel
theorem dX2_remove_5 : decode cX2_remove 5 = .ok (.invokevirtual 34, 3) := by decide +kernel
theorem dX2_remove_8 : decode cX2_remove 8 = .ok (.istore_n 2, 1) := by decide +kernel
theorem dX2_remove_9 : decode cX2_remove 9 = .ok (.aload_n 0, 1) := by decide +kernel
theorem dX2_remove_10 : decode cX2_remove 10 = .ok (.getfield 10, 3) := by decide +kernel
theorem dX2_remove_13 : decode cX2_remove 13 = .ok (.iload_n 2, 1) := by decide +kernel
theorem dX2_remove_14 : decode cX2_remove 14 = .ok (.iload_n 1, 1) := by decide +kernel
theorem dX2_remove_15 : decode cX2_remove 15 = .ok (.invokevirtual 38, 3) := by decide +kernel
theorem dX2_remove_18 : decode cX2_remove 18 = .ok (.ifCond .ne 11, 3) := by decide +kernel
theorem dX2_remove_21 : decode cX2_remove 21 = .ok (.new 57, 3) := by decide +kernel
theorem dX2_remove_24 : decode cX2_remove 24 = .ok (.dup, 1) := by decide +kernel
theorem dX2_remove_25 : decode cX2_remove 25 = .ok (.invokespecial 59, 3) := by decide +kernel
theorem dX2_remove_28 : decode cX2_remove 28 = .ok (.athrow, 1) := by decide +kernel
theorem dX2_remove_29 : decode cX2_remove 29 = .ok (.aload_n 0, 1) := by decide +kernel
theorem dX2_remove_30 : decode cX2_remove 30 = .ok (.getfield 10, 3) := by decide +kernel
theorem dX2_remove_33 : decode cX2_remove 33 = .ok (.getfield 42, 3) := by decide +kernel
theorem dX2_remove_36 : decode cX2_remove 36 = .ok (.iload_n 2, 1) := by decide +kernel
theorem dX2_remove_37 : decode cX2_remove 37 = .ok (.iaload, 1) := by decide +kernel
theorem dX2_remove_38 : decode cX2_remove 38 = .ok (.istore_n 3, 1) := by decide +kernel
theorem dX2_remove_39 : decode cX2_remove 39 = .ok (.aload_n 0, 1) := by decide +kernel
theorem dX2_remove_40 : decode cX2_remove 40 = .ok (.getfield 10, 3) := by decide +kernel
theorem dX2_remove_43 : decode cX2_remove 43 = .ok (.iload_n 2, 1) := by decide +kernel
theorem dX2_remove_44 : decode cX2_remove 44 = .ok (.iload_n 2, 1) := by decide +kernel
theorem dX2_remove_45 : decode cX2_remove 45 = .ok (.iconst 1, 1) := by decide +kernel
theorem dX2_remove_46 : decode cX2_remove 46 = .ok (.iadd, 1) := by decide +kernel
theorem dX2_remove_47 : decode cX2_remove 47 = .ok (.invokevirtual 60, 3) := by decide +kernel
theorem dX2_remove_50 : decode cX2_remove 50 = .ok (.iload_n 3, 1) := by decide +kernel
theorem dX2_remove_51 : decode cX2_remove 51 = .ok (.ireturn, 1) := by decide +kernel
set_option maxRecDepth 20000 in
theorem ggX2_load_X1_fill : GoodIn wsX2_load wsX1_fill := goodIn_r _ [10, 11, 12, 13, 19, 20, 21] (by decide +kernel) (by decide +kernel)
set_option maxRecDepth 20000 in
theorem gX2_load_X1_fill : GoodIn wsX2_load (wsV RX2 71 RX1 yX1_fill wsX1_fill) := goodIn_app (goodIn_of _ (by decide +kernel)) ggX2_load_X1_fill
theorem dX2_load_0 : decode cX2_load 0 = .ok (.iload_n 3, 1) := by decide +kernel
theorem dX2_load_1 : decode cX2_load 1 = .ok (.ifCond .lt 15, 3) := by decide +kernel
theorem dX2_load_4 : decode cX2_load 4 = .ok (.iload_n 3, 1) := by decide +kernel
theorem dX2_load_5 : decode cX2_load 5 = .ok (.sipush 600, 3) := by decide +kernel
theorem dX2_load_8 : decode cX2_load 8 = .ok (.if_icmp .gt 8, 3) := by decide +kernel
theorem dX2_load_11 : decode cX2_load 11 = .ok (.iload_n 2, 1) := by decide +kernel
theorem dX2_load_12 : decode cX2_load 12 = .ok (.iconst 1, 1) := by decide +kernel
theorem dX2_load_13 : decode cX2_load 13 = .ok (.if_icmp .ge 11, 3) := by decide +kernel
theorem dX2_load_16 : decode cX2_load 16 = .ok (.new 64, 3) := by decide +kernel
theorem dX2_load_19 : decode cX2_load 19 = .ok (.dup, 1) := by decide +kernel
theorem dX2_load_20 : decode cX2_load 20 = .ok (.invokespecial 66, 3) := by decide +kernel
theorem dX2_load_23 : decode cX2_load 23 = .ok (.athrow, 1) := by decide +kernel
theorem dX2_load_24 : decode cX2_load 24 = .ok (.iload_n 1, 1) := by decide +kernel
theorem dX2_load_25 : decode cX2_load 25 = .ok (.i2l, 1) := by decide +kernel
theorem dX2_load_26 : decode cX2_load 26 = .ok (.iload_n 2, 1) := by decide +kernel
theorem dX2_load_27 : decode cX2_load 27 = .ok (.i2l, 1) := by decide +kernel
theorem dX2_load_28 : decode cX2_load 28 = .ok (.iload_n 3, 1) := by decide +kernel
theorem dX2_load_29 : decode cX2_load 29 = .ok (.iconst 1, 1) := by decide +kernel
theorem dX2_load_30 : decode cX2_load 30 = .ok (.isub, 1) := by decide +kernel
theorem dX2_load_31 : decode cX2_load 31 = .ok (.i2l, 1) := by decide +kernel
theorem dX2_load_32 : decode cX2_load 32 = .ok (.lmul, 1) := by decide +kernel
theorem dX2_load_33 : decode cX2_load 33 = .ok (.ladd, 1) := by decide +kernel
theorem dX2_load_34 : decode cX2_load 34 = .ok (.lstore 6, 2) := by decide +kernel
theorem dX2_load_36 : decode cX2_load 36 = .ok (.lload 6, 2) := by decide +kernel
theorem dX2_load_38 : decode cX2_load 38 = .ok (.ldc2_w 69, 3) := by decide +kernel
theorem dX2_load_41 : decode cX2_load 41 = .ok (.lcmp, 1) := by decide +kernel
theorem dX2_load_42 : decode cX2_load 42 = .ok (.ifCond .le 11, 3) := by decide +kernel
theorem dX2_load_45 : decode cX2_load 45 = .ok (.new 64, 3) := by decide +kernel
theorem dX2_load_48 : decode cX2_load 48 = .ok (.dup, 1) := by decide +kernel
theorem dX2_load_49 : decode cX2_load 49 = .ok (.invokespecial 66, 3) := by decide +kernel
theorem dX2_load_52 : decode cX2_load 52 = .ok (.athrow, 1) := by decide +kernel
theorem dX2_load_53 : decode cX2_load 53 = .ok (.aload_n 0, 1) := by decide +kernel
theorem dX2_load_54 : decode cX2_load 54 = .ok (.getfield 10, 3) := by decide +kernel
theorem dX2_load_57 : decode cX2_load 57 = .ok (.getfield 46, 3) := by decide +kernel
theorem dX2_load_60 : decode cX2_load 60 = .ok (.istore 8, 2) := by decide +kernel
theorem dX2_load_62 : decode cX2_load 62 = .ok (.aload_n 0, 1) := by decide +kernel
theorem dX2_load_63 : decode cX2_load 63 = .ok (.getfield 10, 3) := by decide +kernel
theorem dX2_load_66 : decode cX2_load 66 = .ok (.iload_n 1, 1) := by decide +kernel
theorem dX2_load_67 : decode cX2_load 67 = .ok (.iload_n 2, 1) := by decide +kernel
theorem dX2_load_68 : decode cX2_load 68 = .ok (.iload_n 3, 1) := by decide +kernel
theorem dX2_load_69 : decode cX2_load 69 = .ok (.iload 4, 2) := by decide +kernel
theorem dX2_load_71 : decode cX2_load 71 = .ok (.iload 5, 2) := by decide +kernel
theorem dX2_load_73 : decode cX2_load 73 = .ok (.invokevirtual 71, 3) := by decide +kernel
theorem dX2_load_76 : decode cX2_load 76 = .ok (.iload 8, 2) := by decide +kernel
theorem dX2_load_78 : decode cX2_load 78 = .ok (.ireturn, 1) := by decide +kernel
set_option maxRecDepth 20000 in
theorem ggX2_cut_X1_countBelow : GoodIn wsX2_cut wsX1_countBelow := goodIn_r _ [6, 7, 8, 36, 37, 38] (by decide +kernel) (by decide +kernel)
set_option maxRecDepth 20000 in
theorem gX2_cut_X1_countBelow : GoodIn wsX2_cut (wsV RX2 34 RX1 yX1_countBelow wsX1_countBelow) := goodIn_app (goodIn_of _ (by decide +kernel)) ggX2_cut_X1_countBelow
set_option maxRecDepth 20000 in
theorem ggX2_cut_X1_countNotAbove : GoodIn wsX2_cut wsX1_countNotAbove := goodIn_r _ [12, 13, 3, 4, 5, 6, 7, 8, 14, 15, 16, 17, 18, 19, 20, 21, 36, 37, 38] (by decide +kernel) (by decide +kernel)
set_option maxRecDepth 20000 in
theorem gX2_cut_X1_countNotAbove : GoodIn wsX2_cut (wsV RX2 75 RX1 yX1_countNotAbove wsX1_countNotAbove) := goodIn_app (goodIn_of _ (by decide +kernel)) ggX2_cut_X1_countNotAbove
set_option maxRecDepth 20000 in
theorem ggX2_cut_X1_dropBetween : GoodIn wsX2_cut wsX1_dropBetween := goodIn_r _ [25, 8, 7, 26, 27, 28, 29, 30, 36, 37, 38] (by decide +kernel) (by decide +kernel)
set_option maxRecDepth 20000 in
theorem gX2_cut_X1_dropBetween : GoodIn wsX2_cut (wsV RX2 60 RX1 yX1_dropBetween wsX1_dropBetween) := goodIn_app (goodIn_of _ (by decide +kernel)) ggX2_cut_X1_dropBetween
theorem dX2_cut_0 : decode cX2_cut 0 = .ok (.aload_n 0, 1) := by decide +kernel
theorem dX2_cut_1 : decode cX2_cut 1 = .ok (.getfield 10, 3) := by decide +kernel
theorem dX2_cut_4 : decode cX2_cut 4 = .ok (.iload_n 1, 1) := by decide +kernel
theorem dX2_cut_5 : decode cX2_cut 5 = .ok (.invokevirtual 34, 3) := by decide +kernel
theorem dX2_cut_8 : decode cX2_cut 8 = .ok (.istore_n 3, 1) := by decide +kernel
theorem dX2_cut_9 : decode cX2_cut 9 = .ok (.aload_n 0, 1) := by decide +kernel
theorem dX2_cut_10 : decode cX2_cut 10 = .ok (.getfield 10, 3) := by decide +kernel
theorem dX2_cut_13 : decode cX2_cut 13 = .ok (.iload_n 2, 1) := by decide +kernel
theorem dX2_cut_14 : decode cX2_cut 14 = .ok (.invokevirtual 75, 3) := by decide +kernel
theorem dX2_cut_17 : decode cX2_cut 17 = .ok (.istore 4, 2) := by decide +kernel
theorem dX2_cut_19 : decode cX2_cut 19 = .ok (.iload_n 3, 1) := by decide +kernel
theorem dX2_cut_20 : decode cX2_cut 20 = .ok (.iload 4, 2) := by decide +kernel
theorem dX2_cut_22 : decode cX2_cut 22 = .ok (.if_icmp .lt 5, 3) := by decide +kernel
theorem dX2_cut_25 : decode cX2_cut 25 = .ok (.iconst 0, 1) := by decide +kernel
theorem dX2_cut_26 : decode cX2_cut 26 = .ok (.ireturn, 1) := by decide +kernel
theorem dX2_cut_27 : decode cX2_cut 27 = .ok (.aload_n 0, 1) := by decide +kernel
theorem dX2_cut_28 : decode cX2_cut 28 = .ok (.getfield 10, 3) := by decide +kernel
theorem dX2_cut_31 : decode cX2_cut 31 = .ok (.iload_n 3, 1) := by decide +kernel
theorem dX2_cut_32 : decode cX2_cut 32 = .ok (.iload 4, 2) := by decide +kernel
theorem dX2_cut_34 : decode cX2_cut 34 = .ok (.invokevirtual 60, 3) := by decide +kernel
theorem dX2_cut_37 : decode cX2_cut 37 = .ok (.iload 4, 2) := by decide +kernel
theorem dX2_cut_39 : decode cX2_cut 39 = .ok (.iload_n 3, 1) := by decide +kernel
theorem dX2_cut_40 : decode cX2_cut 40 = .ok (.isub, 1) := by decide +kernel
theorem dX2_cut_41 : decode cX2_cut 41 = .ok (.ireturn, 1) := by decide +kernel
set_option maxRecDepth 20000 in
theorem ggX2_merge_X2_mapOf : GoodIn wsX2_merge wsX2_mapOf := goodIn_ca (goodIn_r _ [9, 10, 11, 12, 13, 14, 15, 8, 16, 40, 41, 42, 43, 44] (by decide +kernel) (by decide +kernel)) (goodIn_sub (fun _ h => List.mem_cons_of_mem _ (List.mem_append_right _ h)) (by decide +kernel))
set_option maxRecDepth 20000 in
theorem gX2_merge_X2_mapOf : GoodIn wsX2_merge (wsV RX2 78 RX2 yX2_mapOf wsX2_mapOf) := goodIn_app (goodIn_of _ (by decide +kernel)) ggX2_merge_X2_mapOf
set_option maxRecDepth 20000 in
theorem ggX2_merge_X1_countShared : GoodIn wsX2_merge wsX1_countShared := goodIn_r _ [21, 22, 23, 24, 25, 26, 27, 20, 28, 29, 30, 31, 32, 37, 38, 39] (by decide +kernel) (by decide +kernel)
set_option maxRecDepth 20000 in
theorem gX2_merge_X1_countShared : GoodIn wsX2_merge (wsV RX2 82 RX1 yX1_countShared wsX1_countShared) := goodIn_app (goodIn_of _ (by decide +kernel)) ggX2_merge_X1_countShared
set_option maxRecDepth 20000 in
theorem ggX2_merge_X1_takeOver : GoodIn wsX2_merge wsX1_takeOver := goodIn_r _ [36, 22, 23, 24, 25, 26, 27, 20, 28, 29, 30, 31, 32, 37, 38, 39] (by decide +kernel) (by decide +kernel)
set_option maxRecDepth 20000 in
theorem gX2_merge_X1_takeOver : GoodIn wsX2_merge (wsV RX2 86 RX1 yX1_takeOver wsX1_takeOver) := goodIn_app (goodIn_of _ (by decide +kernel)) ggX2_merge_X1_takeOver
theorem dX2_merge_0 : decode cX2_merge 0 = .ok (.aload_n 0, 1) := by decide +kernel
theorem dX2_merge_1 : decode cX2_merge 1 = .ok (.iload_n 1, 1) := by decide +kernel
theorem dX2_merge_2 : decode cX2_merge 2 = .ok (.invokevirtual 78, 3) := by decide +kernel
theorem dX2_merge_5 : decode cX2_merge 5 = .ok (.astore_n 2, 1) := by decide +kernel
theorem dX2_merge_6 : decode cX2_merge 6 = .ok (.aload_n 2, 1) := by decide +kernel
theorem dX2_merge_7 : decode cX2_merge 7 = .ok (.getfield 46, 3) := by decide +kernel
theorem dX2_merge_10 : decode cX2_merge 10 = .ok (.aload_n 2, 1) := by decide +kernel
theorem dX2_merge_11 : decode cX2_merge 11 = .ok (.aload_n 0, 1) := by decide +kernel
theorem dX2_merge_12 : decode cX2_merge 12 = .ok (.getfield 10, 3) := by decide +kernel
theorem dX2_merge_15 : decode cX2_merge 15 = .ok (.iconst 0, 1) := by decide +kernel
theorem dX2_merge_16 : decode cX2_merge 16 = .ok (.invokevirtual 82, 3) := by decide +kernel
theorem dX2_merge_19 : decode cX2_merge 19 = .ok (.isub, 1) := by decide +kernel
theorem dX2_merge_20 : decode cX2_merge 20 = .ok (.istore_n 3, 1) := by decide +kernel
theorem dX2_merge_21 : decode cX2_merge 21 = .ok (.aload_n 0, 1) := by decide +kernel
theorem dX2_merge_22 : decode cX2_merge 22 = .ok (.getfield 10, 3) := by decide +kernel
theorem dX2_merge_25 : decode cX2_merge 25 = .ok (.getfield 46, 3) := by decide +kernel
theorem dX2_merge_28 : decode cX2_merge 28 = .ok (.iload_n 3, 1) := by decide +kernel
theorem dX2_merge_29 : decode cX2_merge 29 = .ok (.iadd, 1) := by decide +kernel
theorem dX2_merge_30 : decode cX2_merge 30 = .ok (.sipush 600, 3) := by decide +kernel
theorem dX2_merge_33 : decode cX2_merge 33 = .ok (.if_icmp .le 11, 3) := by decide +kernel
theorem dX2_merge_36 : decode cX2_merge 36 = .ok (.new 50, 3) := by decide +kernel
theorem dX2_merge_39 : decode cX2_merge 39 = .ok (.dup, 1) := by decide +kernel
theorem dX2_merge_40 : decode cX2_merge 40 = .ok (.invokespecial 52, 3) := by decide +kernel
theorem dX2_merge_43 : decode cX2_merge 43 = .ok (.athrow, 1) := by decide +kernel
theorem dX2_merge_44 : decode cX2_merge 44 = .ok (.aload_n 0, 1) := by decide +kernel
theorem dX2_merge_45 : decode cX2_merge 45 = .ok (.getfield 10, 3) := by decide +kernel
theorem dX2_merge_48 : decode cX2_merge 48 = .ok (.aload_n 2, 1) := by decide +kernel
theorem dX2_merge_49 : decode cX2_merge 49 = .ok (.iload_n 3, 1) := by decide +kernel
theorem dX2_merge_50 : decode cX2_merge 50 = .ok (.invokevirtual 86, 3) := by decide +kernel
theorem dX2_merge_53 : decode cX2_merge 53 = .ok (.iload_n 3, 1) := by decide +kernel
theorem dX2_merge_54 : decode cX2_merge 54 = .ok (.ireturn, 1) := by decide +kernel
set_option maxRecDepth 20000 in
theorem ggX2_snapshot_X2_leastFree : GoodIn wsX2_snapshot wsX2_leastFree := goodIn_r _ [9] (by decide +kernel) (by decide +kernel)
set_option maxRecDepth 20000 in
theorem gX2_snapshot_X2_leastFree : GoodIn wsX2_snapshot (va_wsS RX2 90 yX2_leastFree wsX2_leastFree) := goodIn_app (goodIn_of _ (by decide +kernel)) ggX2_snapshot_X2_leastFree
set_option maxRecDepth 20000 in
theorem ggX2_snapshot_X1_copyFrom : GoodIn wsX2_snapshot wsX1_copyFrom := goodIn_r _ [14, 15, 16, 17, 18, 19, 20, 21, 27, 28, 29] (by decide +kernel) (by decide +kernel)
set_option maxRecDepth 20000 in
theorem gX2_snapshot_X1_copyFrom : GoodIn wsX2_snapshot (wsV RX2 94 RX1 yX1_copyFrom wsX1_copyFrom) := goodIn_app (goodIn_of _ (by decide +kernel)) ggX2_snapshot_X1_copyFrom
theorem dX2_snapshot_0 : decode cX2_snapshot 0 = .ok (.aload_n 0, 1) := by decide +kernel
theorem dX2_snapshot_1 : decode cX2_snapshot 1 = .ok (.getfield 20, 3) := by decide +kernel
theorem dX2_snapshot_4 : decode cX2_snapshot 4 = .ok (.iconst 1, 1) := by decide +kernel
theorem dX2_snapshot_5 : decode cX2_snapshot 5 = .ok (.invokestatic 90, 3) := by decide +kernel
theorem dX2_snapshot_8 : decode cX2_snapshot 8 = .ok (.istore_n 1, 1) := by decide +kernel
theorem dX2_snapshot_9 : decode cX2_snapshot 9 = .ok (.iload_n 1, 1) := by decide +kernel
theorem dX2_snapshot_10 : decode cX2_snapshot 10 = .ok (.aload_n 0, 1) := by decide +kernel
theorem dX2_snapshot_11 : decode cX2_snapshot 11 = .ok (.getfield 20, 3) := by decide +kernel
theorem dX2_snapshot_14 : decode cX2_snapshot 14 = .ok (.arraylength, 1) := by decide +kernel
theorem dX2_snapshot_15 : decode cX2_snapshot 15 = .ok (.if_icmp .ne 11, 3) := by decide +kernel
theorem dX2_snapshot_18 : decode cX2_snapshot 18 = .ok (.new 50, 3) := by decide +kernel
theorem dX2_snapshot_21 : decode cX2_snapshot 21 = .ok (.dup, 1) := by decide +kernel
theorem dX2_snapshot_22 : decode cX2_snapshot 22 = .ok (.invokespecial 52, 3) := by decide +kernel
theorem dX2_snapshot_25 : decode cX2_snapshot 25 = .ok (.athrow, 1) := by decide +kernel
theorem dX2_snapshot_26 : decode cX2_snapshot 26 = .ok (.aload_n 0, 1) := by decide +kernel
theorem dX2_snapshot_27 : decode cX2_snapshot 27 = .ok (.getfield 16, 3) := by decide +kernel
theorem dX2_snapshot_30 : decode cX2_snapshot 30 = .ok (.iload_n 1, 1) := by decide +kernel
theorem dX2_snapshot_31 : decode cX2_snapshot 31 = .ok (.aaload, 1) := by decide +kernel
theorem dX2_snapshot_32 : decode cX2_snapshot 32 = .ok (.aload_n 0, 1) := by decide +kernel
theorem dX2_snapshot_33 : decode cX2_snapshot 33 = .ok (.getfield 10, 3) := by decide +kernel
theorem dX2_snapshot_36 : decode cX2_snapshot 36 = .ok (.invokevirtual 94, 3) := by decide +kernel
theorem dX2_snapshot_39 : decode cX2_snapshot 39 = .ok (.aload_n 0, 1) := by decide +kernel
theorem dX2_snapshot_40 : decode cX2_snapshot 40 = .ok (.getfield 20, 3) := by decide +kernel
theorem dX2_snapshot_43 : decode cX2_snapshot 43 = .ok (.iload_n 1, 1) := by decide +kernel
theorem dX2_snapshot_44 : decode cX2_snapshot 44 = .ok (.iconst 1, 1) := by decide +kernel
theorem dX2_snapshot_45 : decode cX2_snapshot 45 = .ok (.bastore, 1) := by decide +kernel
theorem dX2_snapshot_46 : decode cX2_snapshot 46 = .ok (.iload_n 1, 1) := by decide +kernel
theorem dX2_snapshot_47 : decode cX2_snapshot 47 = .ok (.ireturn, 1) := by decide +kernel
set_option maxRecDepth 20000 in
theorem ggX2_release_X2_snapshotOf : GoodIn wsX2_release wsX2_snapshotOf := goodIn_ca (goodIn_r _ [7, 8, 9, 10, 11, 12, 6, 13, 2, 14, 15, 16, 17, 24, 25, 26, 27, 28] (by decide +kernel) (by decide +kernel)) (goodIn_sub (fun _ h => List.mem_cons_of_mem _ (List.mem_append_right _ h)) (by decide +kernel))
set_option maxRecDepth 20000 in
theorem gX2_release_X2_snapshotOf : GoodIn wsX2_release (wsV RX2 98 RX2 yX2_snapshotOf wsX2_snapshotOf) := goodIn_app (goodIn_of _ (by decide +kernel)) ggX2_release_X2_snapshotOf
set_option maxRecDepth 20000 in
theorem ggX2_release_X2_countTaken : GoodIn wsX2_release wsX2_countTaken := goodIn_r _ [20] (by decide +kernel) (by decide +kernel)
set_option maxRecDepth 20000 in
theorem gX2_release_X2_countTaken : GoodIn wsX2_release (va_wsS RX2 101 yX2_countTaken wsX2_countTaken) := goodIn_app (goodIn_of _ (by decide +kernel)) ggX2_release_X2_countTaken
theorem dX2_release_0 : decode cX2_release 0 = .ok (.aload_n 0, 1) := by decide +kernel
theorem dX2_release_1 : decode cX2_release 1 = .ok (.iload_n 1, 1) := by decide +kernel
theorem dX2_release_2 : decode cX2_release 2 = .ok (.invokevirtual 98, 3) := by decide +kernel
theorem dX2_release_5 : decode cX2_release 5 = .ok (.iconst 0, 1) := by decide +kernel
theorem dX2_release_6 : decode cX2_release 6 = .ok (.putfield 46, 3) := by decide +kernel
theorem dX2_release_9 : decode cX2_release 9 = .ok (.aload_n 0, 1) := by decide +kernel
theorem dX2_release_10 : decode cX2_release 10 = .ok (.getfield 20, 3) := by decide +kernel
theorem dX2_release_13 : decode cX2_release 13 = .ok (.iload_n 1, 1) := by decide +kernel
theorem dX2_release_14 : decode cX2_release 14 = .ok (.iconst 0, 1) := by decide +kernel
theorem dX2_release_15 : decode cX2_release 15 = .ok (.bastore, 1) := by decide +kernel
theorem dX2_release_16 : decode cX2_release 16 = .ok (.aload_n 0, 1) := by decide +kernel
theorem dX2_release_17 : decode cX2_release 17 = .ok (.getfield 20, 3) := by decide +kernel
theorem dX2_release_20 : decode cX2_release 20 = .ok (.iconst 1, 1) := by decide +kernel
theorem dX2_release_21 : decode cX2_release 21 = .ok (.invokestatic 101, 3) := by decide +kernel
theorem dX2_release_24 : decode cX2_release 24 = .ok (.ireturn, 1) := by decide +kernel
set_option maxRecDepth 20000 in
theorem ggX2_restore_X2_snapshotOf : GoodIn wsX2_restore wsX2_snapshotOf := goodIn_ca (goodIn_r _ [7, 8, 9, 10, 11, 12, 6, 13, 14, 15, 16, 17, 18, 31, 32, 33, 34, 35] (by decide +kernel) (by decide +kernel)) (goodIn_sub (fun _ h => List.mem_cons_of_mem _ (List.mem_append_right _ h)) (by decide +kernel))
set_option maxRecDepth 20000 in
theorem gX2_restore_X2_snapshotOf : GoodIn wsX2_restore (wsV RX2 98 RX2 yX2_snapshotOf wsX2_snapshotOf) := goodIn_app (goodIn_of _ (by decide +kernel)) ggX2_restore_X2_snapshotOf
set_option maxRecDepth 20000 in
theorem ggX2_restore_X1_copyFrom : GoodIn wsX2_restore wsX1_copyFrom := goodIn_r _ [23, 24, 25, 26, 27, 28, 29, 30, 36, 37, 38] (by decide +kernel) (by decide +kernel)
set_option maxRecDepth 20000 in
theorem gX2_restore_X1_copyFrom : GoodIn wsX2_restore (wsV RX2 94 RX1 yX1_copyFrom wsX1_copyFrom) := goodIn_app (goodIn_of _ (by decide +kernel)) ggX2_restore_X1_copyFrom
theorem dX2_restore_0 : decode cX2_restore 0 = .ok (.aload_n 0, 1) := by decide +kernel
theorem dX2_restore_1 : decode cX2_restore 1 = .ok (.getfield 10, 3) := by decide +kernel
theorem dX2_restore_4 : decode cX2_restore 4 = .ok (.aload_n 0, 1) := by decide +kernel
theorem dX2_restore_5 : decode cX2_restore 5 = .ok (.iload_n 1, 1) := by decide +kernel
theorem dX2_restore_6 : decode cX2_restore 6 = .ok (.invokevirtual 98, 3) := by decide +kernel
theorem dX2_restore_9 : decode cX2_restore 9 = .ok (.invokevirtual 94, 3) := by decide +kernel
theorem dX2_restore_12 : decode cX2_restore 12 = .ok (.aload_n 0, 1) := by decide +kernel
theorem dX2_restore_13 : decode cX2_restore 13 = .ok (.getfield 10, 3) := by decide +kernel
theorem dX2_restore_16 : decode cX2_restore 16 = .ok (.getfield 46, 3) := by decide +kernel
theorem dX2_restore_19 : decode cX2_restore 19 = .ok (.ireturn, 1) := by decide +kernel
set_option maxRecDepth 20000 in
theorem ggX2_size_X2_mapOf : GoodIn wsX2_size wsX2_mapOf := goodIn_ca (goodIn_r _ [6, 7, 8, 9, 10, 11, 12, 5, 13, 17, 18, 19, 20, 21] (by decide +kernel) (by decide +kernel)) (goodIn_sub (fun _ h => List.mem_cons_of_mem _ (List.mem_append_right _ h)) (by decide +kernel))
set_option maxRecDepth 20000 in
theorem gX2_size_X2_mapOf : GoodIn wsX2_size (wsV RX2 78 RX2 yX2_mapOf wsX2_mapOf) := goodIn_app (goodIn_of _ (by decide +kernel)) ggX2_size_X2_mapOf
theorem dX2_size_0 : decode cX2_size 0 = .ok (.aload_n 0, 1) := by decide +kernel
theorem dX2_size_1 : decode cX2_size 1 = .ok (.iload_n 1, 1) := by decide +kernel
theorem dX2_size_2 : decode cX2_size 2 = .ok (.invokevirtual 78, 3) := by decide +kernel
theorem dX2_size_5 : decode cX2_size 5 = .ok (.getfield 46, 3) := by decide +kernel
theorem dX2_size_8 : decode cX2_size 8 = .ok (.ireturn, 1) := by decide +kernel
set_option maxRecDepth 20000 in
theorem ggX2_get_X2_mapOf : GoodIn wsX2_get wsX2_mapOf := goodIn_ca (goodIn_r _ [8, 9, 10, 11, 12, 13, 14, 7, 15, 34, 35, 36, 37, 38] (by decide +kernel) (by decide +kernel)) (goodIn_sub (fun _ h => List.mem_cons_of_mem _ (List.mem_append_right _ h)) (by decide +kernel))
set_option maxRecDepth 20000 in
theorem gX2_get_X2_mapOf : GoodIn wsX2_get (wsV RX2 78 RX2 yX2_mapOf wsX2_mapOf) := goodIn_app (goodIn_of _ (by decide +kernel)) ggX2_get_X2_mapOf
set_option maxRecDepth 20000 in
theorem ggX2_get_X1_countBelow : GoodIn wsX2_get wsX1_countBelow := goodIn_r _ [20, 21, 22, 31, 32, 33] (by decide +kernel) (by decide +kernel)
set_option maxRecDepth 20000 in
theorem gX2_get_X1_countBelow : GoodIn wsX2_get (wsV RX2 34 RX1 yX1_countBelow wsX1_countBelow) := goodIn_app (goodIn_of _ (by decide +kernel)) ggX2_get_X1_countBelow
set_option maxRecDepth 20000 in
theorem ggX2_get_X1_hasAt : GoodIn wsX2_get wsX1_hasAt := goodIn_r _ [26, 22, 27, 28, 29, 19, 30, 21, 31, 32, 33] (by decide +kernel) (by decide +kernel)
set_option maxRecDepth 20000 in
theorem gX2_get_X1_hasAt : GoodIn wsX2_get (wsV RX2 38 RX1 yX1_hasAt wsX1_hasAt) := goodIn_app (goodIn_of _ (by decide +kernel)) ggX2_get_X1_hasAt
theorem dX2_get_0 : decode cX2_get 0 = .ok (.aload_n 0, 1) := by decide +kernel
theorem dX2_get_1 : decode cX2_get 1 = .ok (.iload_n 1, 1) := by decide +kernel
theorem dX2_get_2 : decode cX2_get 2 = .ok (.invokevirtual 78, 3) := by decide +kernel
theorem dX2_get_5 : decode cX2_get 5 = .ok (.astore_n 3, 1) := by decide +kernel
theorem dX2_get_6 : decode cX2_get 6 = .ok (.aload_n 3, 1) := by decide +kernel
theorem dX2_get_7 : decode cX2_get 7 = .ok (.iload_n 2, 1) := by decide +kernel
theorem dX2_get_8 : decode cX2_get 8 = .ok (.invokevirtual 34, 3) := by decide +kernel
theorem dX2_get_11 : decode cX2_get 11 = .ok (.istore 4, 2) := by decide +kernel
theorem dX2_get_13 : decode cX2_get 13 = .ok (.aload_n 3, 1) := by decide +kernel
theorem dX2_get_14 : decode cX2_get 14 = .ok (.iload 4, 2) := by decide +kernel
theorem dX2_get_16 : decode cX2_get 16 = .ok (.iload_n 2, 1) := by decide +kernel
theorem dX2_get_17 : decode cX2_get 17 = .ok (.invokevirtual 38, 3) := by decide +kernel
theorem dX2_get_20 : decode cX2_get 20 = .ok (.ifCond .ne 11, 3) := by decide +kernel
theorem dX2_get_23 : decode cX2_get 23 = .ok (.new 57, 3) := by decide +kernel
theorem dX2_get_26 : decode cX2_get 26 = .ok (.dup, 1) := by decide +kernel
theorem dX2_get_27 : decode cX2_get 27 = .ok (.invokespecial 59, 3) := by decide +kernel
theorem dX2_get_30 : decode cX2_get 30 = .ok (.athrow, 1) := by decide +kernel
theorem dX2_get_31 : decode cX2_get 31 = .ok (.aload_n 3, 1) := by decide +kernel
theorem dX2_get_32 : decode cX2_get 32 = .ok (.getfield 42, 3) := by decide +kernel
theorem dX2_get_35 : decode cX2_get 35 = .ok (.iload 4, 2) := by decide +kernel
theorem dX2_get_37 : decode cX2_get 37 = .ok (.iaload, 1) := by decide +kernel
theorem dX2_get_38 : decode cX2_get 38 = .ok (.ireturn, 1) := by decide +kernel
set_option maxRecDepth 20000 in
theorem ggX2_rank_X2_mapOf : GoodIn wsX2_rank wsX2_mapOf := goodIn_ca (goodIn_r _ [5, 6, 7, 8, 9, 10, 11, 4, 12, 20, 21, 22, 23, 24] (by decide +kernel) (by decide +kernel)) (goodIn_sub (fun _ h => List.mem_cons_of_mem _ (List.mem_append_right _ h)) (by decide +kernel))
set_option maxRecDepth 20000 in
theorem gX2_rank_X2_mapOf : GoodIn wsX2_rank (wsV RX2 78 RX2 yX2_mapOf wsX2_mapOf) := goodIn_app (goodIn_of _ (by decide +kernel)) ggX2_rank_X2_mapOf
set_option maxRecDepth 20000 in
theorem ggX2_rank_X1_countBelow : GoodIn wsX2_rank wsX1_countBelow := goodIn_r _ [17, 18, 19, 25, 26, 27] (by decide +kernel) (by decide +kernel)
set_option maxRecDepth 20000 in
theorem gX2_rank_X1_countBelow : GoodIn wsX2_rank (wsV RX2 34 RX1 yX1_countBelow wsX1_countBelow) := goodIn_app (goodIn_of _ (by decide +kernel)) ggX2_rank_X1_countBelow
theorem dX2_rank_0 : decode cX2_rank 0 = .ok (.aload_n 0, 1) := by decide +kernel
theorem dX2_rank_1 : decode cX2_rank 1 = .ok (.iload_n 1, 1) := by decide +kernel
theorem dX2_rank_2 : decode cX2_rank 2 = .ok (.invokevirtual 78, 3) := by decide +kernel
theorem dX2_rank_5 : decode cX2_rank 5 = .ok (.iload_n 2, 1) := by decide +kernel
theorem dX2_rank_6 : decode cX2_rank 6 = .ok (.invokevirtual 34, 3) := by decide +kernel
theorem dX2_rank_9 : decode cX2_rank 9 = .ok (.ireturn, 1) := by decide +kernel
set_option maxRecDepth 20000 in
theorem ggX2_select_X2_mapOf : GoodIn wsX2_select wsX2_mapOf := goodIn_ca (goodIn_r _ [5, 6, 7, 8, 9, 10, 11, 4, 12, 25, 26, 27, 28, 29] (by decide +kernel) (by decide +kernel)) (goodIn_sub (fun _ h => List.mem_cons_of_mem _ (List.mem_append_left _ (List.mem_append_right _ h))) (by decide +kernel))
set_option maxRecDepth 20000 in
theorem gX2_select_X2_mapOf : GoodIn wsX2_select (wsV RX2 78 RX2 yX2_mapOf wsX2_mapOf) := goodIn_app (goodIn_of _ (by decide +kernel)) ggX2_select_X2_mapOf
set_option maxRecDepth 20000 in
theorem ggX2_select_X2_keyAt : GoodIn wsX2_select wsX2_keyAt := goodIn_ca (goodIn_r _ [15, 16, 17, 18, 19, 20, 21, 22, 23, 24, 30, 31, 32] (by decide +kernel) (by decide +kernel)) (goodIn_sub (fun _ h => List.mem_cons_of_mem _ (List.mem_append_right _ h)) (by decide +kernel))
set_option maxRecDepth 20000 in
theorem gX2_select_X2_keyAt : GoodIn wsX2_select (va_wsS RX2 104 yX2_keyAt wsX2_keyAt) := goodIn_app (goodIn_of _ (by decide +kernel)) ggX2_select_X2_keyAt
theorem dX2_select_0 : decode cX2_select 0 = .ok (.aload_n 0, 1) := by decide +kernel
theorem dX2_select_1 : decode cX2_select 1 = .ok (.iload_n 1, 1) := by decide +kernel
theorem dX2_select_2 : decode cX2_select 2 = .ok (.invokevirtual 78, 3) := by decide +kernel
theorem dX2_select_5 : decode cX2_select 5 = .ok (.iload_n 2, 1) := by decide +kernel
theorem dX2_select_6 : decode cX2_select 6 = .ok (.invokestatic 104, 3) := by decide +kernel
theorem dX2_select_9 : decode cX2_select 9 = .ok (.ireturn, 1) := by decide +kernel
set_option maxRecDepth 20000 in
theorem ggX2_near_X2_mapOf : GoodIn wsX2_near wsX2_mapOf := goodIn_ca (goodIn_r _ [5, 6, 7, 8, 9, 10, 11, 4, 12, 43, 44, 45, 46, 47] (by decide +kernel) (by decide +kernel)) (goodIn_sub (fun _ h => List.mem_cons_of_mem _ (List.mem_append_left _ (List.mem_append_right _ h))) (by decide +kernel))
set_option maxRecDepth 20000 in
theorem gX2_near_X2_mapOf : GoodIn wsX2_near (wsV RX2 78 RX2 yX2_mapOf wsX2_mapOf) := goodIn_app (goodIn_of _ (by decide +kernel)) ggX2_near_X2_mapOf
set_option maxRecDepth 20000 in
theorem ggX2_near_X1_nearest : GoodIn wsX2_near wsX1_nearest := goodIn_r _ [17, 18, 19, 20, 16, 21, 22, 23, 24, 25, 26, 27, 28, 29, 30, 31, 32, 33, 34, 35, 48, 49, 50] (by decide +kernel) (by decide +kernel)
set_option maxRecDepth 20000 in
theorem gX2_near_X1_nearest : GoodIn wsX2_near (wsV RX2 108 RX1 yX1_nearest wsX1_nearest) := goodIn_app (goodIn_of _ (by decide +kernel)) ggX2_near_X1_nearest
set_option maxRecDepth 20000 in
theorem ggX2_near_X2_keyAt : GoodIn wsX2_near wsX2_keyAt := goodIn_ca (goodIn_r _ [38, 39, 40, 41, 42, 33, 34, 16, 35, 22, 48, 49, 50] (by decide +kernel) (by decide +kernel)) (goodIn_sub (fun _ h => List.mem_cons_of_mem _ (List.mem_append_right _ h)) (by decide +kernel))
set_option maxRecDepth 20000 in
theorem gX2_near_X2_keyAt : GoodIn wsX2_near (va_wsS RX2 104 yX2_keyAt wsX2_keyAt) := goodIn_app (goodIn_of _ (by decide +kernel)) ggX2_near_X2_keyAt
theorem dX2_near_0 : decode cX2_near 0 = .ok (.aload_n 0, 1) := by decide +kernel
theorem dX2_near_1 : decode cX2_near 1 = .ok (.iload_n 1, 1) := by decide +kernel
theorem dX2_near_2 : decode cX2_near 2 = .ok (.invokevirtual 78, 3) := by decide +kernel
theorem dX2_near_5 : decode cX2_near 5 = .ok (.astore 4, 2) := by decide +kernel
theorem dX2_near_7 : decode cX2_near 7 = .ok (.aload 4, 2) := by decide +kernel
theorem dX2_near_9 : decode cX2_near 9 = .ok (.aload 4, 2) := by decide +kernel
theorem dX2_near_11 : decode cX2_near 11 = .ok (.iload_n 2, 1) := by decide +kernel
theorem dX2_near_12 : decode cX2_near 12 = .ok (.iload_n 3, 1) := by decide +kernel
theorem dX2_near_13 : decode cX2_near 13 = .ok (.invokevirtual 108, 3) := by decide +kernel
theorem dX2_near_16 : decode cX2_near 16 = .ok (.invokestatic 104, 3) := by decide +kernel
theorem dX2_near_19 : decode cX2_near 19 = .ok (.ireturn, 1) := by decide +kernel
set_option maxRecDepth 20000 in
theorem ggX2_sum_X2_mapOf : GoodIn wsX2_sum wsX2_mapOf := goodIn_ca (goodIn_r _ [6, 7, 8, 9, 10, 11, 12, 5, 13, 37, 38, 39, 40, 41] (by decide +kernel) (by decide +kernel)) (goodIn_sub (fun _ h => List.mem_cons_of_mem _ (List.mem_append_right _ h)) (by decide +kernel))
set_option maxRecDepth 20000 in
theorem gX2_sum_X2_mapOf : GoodIn wsX2_sum (wsV RX2 78 RX2 yX2_mapOf wsX2_mapOf) := goodIn_app (goodIn_of _ (by decide +kernel)) ggX2_sum_X2_mapOf
set_option maxRecDepth 20000 in
theorem ggX2_sum_X1_countNotAbove : GoodIn wsX2_sum wsX1_countNotAbove := goodIn_r _ [18, 19, 20, 21, 17, 22, 23, 24, 25, 26, 27, 28, 29, 30, 31, 32, 34, 35, 36] (by decide +kernel) (by decide +kernel)
set_option maxRecDepth 20000 in
theorem gX2_sum_X1_countNotAbove : GoodIn wsX2_sum (wsV RX2 75 RX1 yX1_countNotAbove wsX1_countNotAbove) := goodIn_app (goodIn_of _ (by decide +kernel)) ggX2_sum_X1_countNotAbove
set_option maxRecDepth 20000 in
theorem ggX2_sum_X1_countBelow : GoodIn wsX2_sum wsX1_countBelow := goodIn_r _ [22, 23, 24, 34, 35, 36] (by decide +kernel) (by decide +kernel)
set_option maxRecDepth 20000 in
theorem gX2_sum_X1_countBelow : GoodIn wsX2_sum (wsV RX2 34 RX1 yX1_countBelow wsX1_countBelow) := goodIn_app (goodIn_of _ (by decide +kernel)) ggX2_sum_X1_countBelow
theorem dX2_sum_0 : decode cX2_sum 0 = .ok (.aload_n 0, 1) := by decide +kernel
theorem dX2_sum_1 : decode cX2_sum 1 = .ok (.iload_n 1, 1) := by decide +kernel
theorem dX2_sum_2 : decode cX2_sum 2 = .ok (.invokevirtual 78, 3) := by decide +kernel
theorem dX2_sum_5 : decode cX2_sum 5 = .ok (.astore 4, 2) := by decide +kernel
theorem dX2_sum_7 : decode cX2_sum 7 = .ok (.aload 4, 2) := by decide +kernel
theorem dX2_sum_9 : decode cX2_sum 9 = .ok (.iload_n 3, 1) := by decide +kernel
theorem dX2_sum_10 : decode cX2_sum 10 = .ok (.invokevirtual 75, 3) := by decide +kernel
theorem dX2_sum_13 : decode cX2_sum 13 = .ok (.istore 5, 2) := by decide +kernel
theorem dX2_sum_15 : decode cX2_sum 15 = .ok (.lconst 0, 1) := by decide +kernel
theorem dX2_sum_16 : decode cX2_sum 16 = .ok (.lstore 6, 2) := by decide +kernel
theorem dX2_sum_18 : decode cX2_sum 18 = .ok (.aload 4, 2) := by decide +kernel
theorem dX2_sum_20 : decode cX2_sum 20 = .ok (.iload_n 2, 1) := by decide +kernel
theorem dX2_sum_21 : decode cX2_sum 21 = .ok (.invokevirtual 34, 3) := by decide +kernel
theorem dX2_sum_24 : decode cX2_sum 24 = .ok (.istore 8, 2) := by decide +kernel
theorem dX2_sum_26 : decode cX2_sum 26 = .ok (.iload 8, 2) := by decide +kernel
theorem dX2_sum_28 : decode cX2_sum 28 = .ok (.iload 5, 2) := by decide +kernel
theorem dX2_sum_30 : decode cX2_sum 30 = .ok (.if_icmp .ge 23, 3) := by decide +kernel
theorem dX2_sum_33 : decode cX2_sum 33 = .ok (.lload 6, 2) := by decide +kernel
theorem dX2_sum_35 : decode cX2_sum 35 = .ok (.aload 4, 2) := by decide +kernel
theorem dX2_sum_37 : decode cX2_sum 37 = .ok (.getfield 42, 3) := by decide +kernel
theorem dX2_sum_40 : decode cX2_sum 40 = .ok (.iload 8, 2) := by decide +kernel
theorem dX2_sum_42 : decode cX2_sum 42 = .ok (.iaload, 1) := by decide +kernel
theorem dX2_sum_43 : decode cX2_sum 43 = .ok (.i2l, 1) := by decide +kernel
theorem dX2_sum_44 : decode cX2_sum 44 = .ok (.ladd, 1) := by decide +kernel
theorem dX2_sum_45 : decode cX2_sum 45 = .ok (.lstore 6, 2) := by decide +kernel
theorem dX2_sum_47 : decode cX2_sum 47 = .ok (.iinc 8 1, 3) := by decide +kernel
theorem dX2_sum_50 : decode cX2_sum 50 = .ok (.goto (-24), 3) := by decide +kernel
theorem dX2_sum_53 : decode cX2_sum 53 = .ok (.lload 6, 2) := by decide +kernel
theorem dX2_sum_55 : decode cX2_sum 55 = .ok (.lreturn, 1) := by decide +kernel
set_option maxRecDepth 20000 in
theorem ggX2_greatest_X2_mapOf : GoodIn wsX2_greatest wsX2_mapOf := goodIn_ca (goodIn_r _ [12, 13, 14, 15, 16, 17, 18, 11, 19, 43, 44, 45, 46, 47] (by decide +kernel) (by decide +kernel)) (goodIn_sub (fun _ h => List.mem_cons_of_mem _ (List.mem_append_right _ h)) (by decide +kernel))
set_option maxRecDepth 20000 in
theorem gX2_greatest_X2_mapOf : GoodIn wsX2_greatest (wsV RX2 78 RX2 yX2_mapOf wsX2_mapOf) := goodIn_app (goodIn_of _ (by decide +kernel)) ggX2_greatest_X2_mapOf
set_option maxRecDepth 20000 in
theorem ggX2_greatest_X1_countBelow : GoodIn wsX2_greatest wsX1_countBelow := goodIn_r _ [24, 25, 26, 40, 41, 42] (by decide +kernel) (by decide +kernel)
set_option maxRecDepth 20000 in
theorem gX2_greatest_X1_countBelow : GoodIn wsX2_greatest (wsV RX2 34 RX1 yX1_countBelow wsX1_countBelow) := goodIn_app (goodIn_of _ (by decide +kernel)) ggX2_greatest_X1_countBelow
set_option maxRecDepth 20000 in
theorem ggX2_greatest_X1_countNotAbove : GoodIn wsX2_greatest wsX1_countNotAbove := goodIn_r _ [30, 31, 21, 22, 23, 24, 25, 26, 32, 33, 34, 35, 36, 37, 38, 39, 40, 41, 42] (by decide +kernel) (by decide +kernel)
set_option maxRecDepth 20000 in
theorem gX2_greatest_X1_countNotAbove : GoodIn wsX2_greatest (wsV RX2 75 RX1 yX1_countNotAbove wsX1_countNotAbove) := goodIn_app (goodIn_of _ (by decide +kernel)) ggX2_greatest_X1_countNotAbove
theorem dX2_greatest_0 : decode cX2_greatest 0 = .ok (.aload_n 0, 1) := by decide +kernel
theorem dX2_greatest_1 : decode cX2_greatest 1 = .ok (.iload_n 1, 1) := by decide +kernel
theorem dX2_greatest_2 : decode cX2_greatest 2 = .ok (.invokevirtual 78, 3) := by decide +kernel
theorem dX2_greatest_5 : decode cX2_greatest 5 = .ok (.astore 4, 2) := by decide +kernel
theorem dX2_greatest_7 : decode cX2_greatest 7 = .ok (.aload 4, 2) := by decide +kernel
theorem dX2_greatest_9 : decode cX2_greatest 9 = .ok (.iload_n 2, 1) := by decide +kernel
theorem dX2_greatest_10 : decode cX2_greatest 10 = .ok (.invokevirtual 34, 3) := by decide +kernel
theorem dX2_greatest_13 : decode cX2_greatest 13 = .ok (.istore 5, 2) := by decide +kernel
theorem dX2_greatest_15 : decode cX2_greatest 15 = .ok (.aload 4, 2) := by decide +kernel
theorem dX2_greatest_17 : decode cX2_greatest 17 = .ok (.iload_n 3, 1) := by decide +kernel
theorem dX2_greatest_18 : decode cX2_greatest 18 = .ok (.invokevirtual 75, 3) := by decide +kernel
theorem dX2_greatest_21 : decode cX2_greatest 21 = .ok (.istore 6, 2) := by decide +kernel
theorem dX2_greatest_23 : decode cX2_greatest 23 = .ok (.iload 5, 2) := by decide +kernel
theorem dX2_greatest_25 : decode cX2_greatest 25 = .ok (.iload 6, 2) := by decide +kernel
theorem dX2_greatest_27 : decode cX2_greatest 27 = .ok (.if_icmp .lt 11, 3) := by decide +kernel
theorem dX2_greatest_30 : decode cX2_greatest 30 = .ok (.new 57, 3) := by decide +kernel
theorem dX2_greatest_33 : decode cX2_greatest 33 = .ok (.dup, 1) := by decide +kernel
theorem dX2_greatest_34 : decode cX2_greatest 34 = .ok (.invokespecial 59, 3) := by decide +kernel
theorem dX2_greatest_37 : decode cX2_greatest 37 = .ok (.athrow, 1) := by decide +kernel
theorem dX2_greatest_38 : decode cX2_greatest 38 = .ok (.aload 4, 2) := by decide +kernel
theorem dX2_greatest_40 : decode cX2_greatest 40 = .ok (.getfield 42, 3) := by decide +kernel
theorem dX2_greatest_43 : decode cX2_greatest 43 = .ok (.iload 5, 2) := by decide +kernel
theorem dX2_greatest_45 : decode cX2_greatest 45 = .ok (.iaload, 1) := by decide +kernel
theorem dX2_greatest_46 : decode cX2_greatest 46 = .ok (.istore 7, 2) := by decide +kernel
theorem dX2_greatest_48 : decode cX2_greatest 48 = .ok (.iload 5, 2) := by decide +kernel
theorem dX2_greatest_50 : decode cX2_greatest 50 = .ok (.iconst 1, 1) := by decide +kernel
theorem dX2_greatest_51 : decode cX2_greatest 51 = .ok (.iadd, 1) := by decide +kernel
theorem dX2_greatest_52 : decode cX2_greatest 52 = .ok (.istore 8, 2) := by decide +kernel
theorem dX2_greatest_54 : decode cX2_greatest 54 = .ok (.iload 8, 2) := by decide +kernel
theorem dX2_greatest_56 : decode cX2_greatest 56 = .ok (.iload 6, 2) := by decide +kernel
theorem dX2_greatest_58 : decode cX2_greatest 58 = .ok (.if_icmp .ge 24, 3) := by decide +kernel
theorem dX2_greatest_61 : decode cX2_greatest 61 = .ok (.iload 7, 2) := by decide +kernel
theorem dX2_greatest_63 : decode cX2_greatest 63 = .ok (.aload 4, 2) := by decide +kernel
theorem dX2_greatest_65 : decode cX2_greatest 65 = .ok (.getfield 42, 3) := by decide +kernel
theorem dX2_greatest_68 : decode cX2_greatest 68 = .ok (.iload 8, 2) := by decide +kernel
theorem dX2_greatest_70 : decode cX2_greatest 70 = .ok (.iaload, 1) := by decide +kernel
theorem dX2_greatest_71 : decode cX2_greatest 71 = .ok (.invokestatic 112, 3) := by decide +kernel
theorem dX2_greatest_74 : decode cX2_greatest 74 = .ok (.istore 7, 2) := by decide +kernel
theorem dX2_greatest_76 : decode cX2_greatest 76 = .ok (.iinc 8 1, 3) := by decide +kernel
theorem dX2_greatest_79 : decode cX2_greatest 79 = .ok (.goto (-25), 3) := by decide +kernel
theorem dX2_greatest_82 : decode cX2_greatest 82 = .ok (.iload 7, 2) := by decide +kernel
theorem dX2_greatest_84 : decode cX2_greatest 84 = .ok (.ireturn, 1) := by decide +kernel
set_option maxRecDepth 20000 in
theorem ggX2_differs_X2_mapOf : GoodIn wsX2_differs wsX2_mapOf := goodIn_ca (goodIn_r _ [6, 7, 8, 9, 10, 11, 12, 5, 13, 33, 34, 35, 36, 37] (by decide +kernel) (by decide +kernel)) (goodIn_sub (fun _ h => List.mem_cons_of_mem _ (List.mem_append_right _ h)) (by decide +kernel))
set_option maxRecDepth 20000 in
theorem gX2_differs_X2_mapOf : GoodIn wsX2_differs (wsV RX2 78 RX2 yX2_mapOf wsX2_mapOf) := goodIn_app (goodIn_of _ (by decide +kernel)) ggX2_differs_X2_mapOf
set_option maxRecDepth 20000 in
theorem ggX2_differs_X1_countShared : GoodIn wsX2_differs wsX1_countShared := goodIn_r _ [18, 19, 20, 21, 22, 23, 24, 17, 25, 26, 27, 28, 29, 30, 31, 32] (by decide +kernel) (by decide +kernel)
set_option maxRecDepth 20000 in
theorem gX2_differs_X1_countShared : GoodIn wsX2_differs (wsV RX2 82 RX1 yX1_countShared wsX1_countShared) := goodIn_app (goodIn_of _ (by decide +kernel)) ggX2_differs_X1_countShared
theorem dX2_differs_0 : decode cX2_differs 0 = .ok (.aload_n 0, 1) := by decide +kernel
theorem dX2_differs_1 : decode cX2_differs 1 = .ok (.iload_n 1, 1) := by decide +kernel
theorem dX2_differs_2 : decode cX2_differs 2 = .ok (.invokevirtual 78, 3) := by decide +kernel
theorem dX2_differs_5 : decode cX2_differs 5 = .ok (.astore_n 3, 1) := by decide +kernel
theorem dX2_differs_6 : decode cX2_differs 6 = .ok (.aload_n 0, 1) := by decide +kernel
theorem dX2_differs_7 : decode cX2_differs 7 = .ok (.iload_n 2, 1) := by decide +kernel
theorem dX2_differs_8 : decode cX2_differs 8 = .ok (.invokevirtual 78, 3) := by decide +kernel
theorem dX2_differs_11 : decode cX2_differs 11 = .ok (.astore 4, 2) := by decide +kernel
theorem dX2_differs_13 : decode cX2_differs 13 = .ok (.aload_n 3, 1) := by decide +kernel
theorem dX2_differs_14 : decode cX2_differs 14 = .ok (.getfield 46, 3) := by decide +kernel
theorem dX2_differs_17 : decode cX2_differs 17 = .ok (.aload 4, 2) := by decide +kernel
theorem dX2_differs_19 : decode cX2_differs 19 = .ok (.getfield 46, 3) := by decide +kernel
theorem dX2_differs_22 : decode cX2_differs 22 = .ok (.iadd, 1) := by decide +kernel
theorem dX2_differs_23 : decode cX2_differs 23 = .ok (.aload_n 3, 1) := by decide +kernel
theorem dX2_differs_24 : decode cX2_differs 24 = .ok (.aload 4, 2) := by decide +kernel
theorem dX2_differs_26 : decode cX2_differs 26 = .ok (.iconst 0, 1) := by decide +kernel
theorem dX2_differs_27 : decode cX2_differs 27 = .ok (.invokevirtual 82, 3) := by decide +kernel
theorem dX2_differs_30 : decode cX2_differs 30 = .ok (.isub, 1) := by decide +kernel
theorem dX2_differs_31 : decode cX2_differs 31 = .ok (.aload_n 3, 1) := by decide +kernel
theorem dX2_differs_32 : decode cX2_differs 32 = .ok (.aload 4, 2) := by decide +kernel
theorem dX2_differs_34 : decode cX2_differs 34 = .ok (.iconst 1, 1) := by decide +kernel
theorem dX2_differs_35 : decode cX2_differs 35 = .ok (.invokevirtual 82, 3) := by decide +kernel
theorem dX2_differs_38 : decode cX2_differs 38 = .ok (.isub, 1) := by decide +kernel
theorem dX2_differs_39 : decode cX2_differs 39 = .ok (.ireturn, 1) := by decide +kernel
set_option maxRecDepth 20000 in
theorem ggX2_firstDifference_X2_mapOf : GoodIn wsX2_firstDifference wsX2_mapOf := goodIn_ca (goodIn_r _ [11, 12, 13, 14, 15, 16, 17, 10, 18, 40, 41, 42, 43, 44] (by decide +kernel) (by decide +kernel)) (goodIn_sub (fun _ h => List.mem_cons_of_mem _ (List.mem_append_left _ (List.mem_append_right _ h))) (by decide +kernel))
set_option maxRecDepth 20000 in
theorem gX2_firstDifference_X2_mapOf : GoodIn wsX2_firstDifference (wsV RX2 78 RX2 yX2_mapOf wsX2_mapOf) := goodIn_app (goodIn_of _ (by decide +kernel)) ggX2_firstDifference_X2_mapOf
set_option maxRecDepth 20000 in
theorem ggX2_firstDifference_X1_countAlikeAtStart : GoodIn wsX2_firstDifference wsX1_countAlikeAtStart := goodIn_r _ [23, 24, 25, 4, 5, 6, 26, 27, 37, 38, 39] (by decide +kernel) (by decide +kernel)
set_option maxRecDepth 20000 in
theorem gX2_firstDifference_X1_countAlikeAtStart : GoodIn wsX2_firstDifference (wsV RX2 118 RX1 yX1_countAlikeAtStart wsX1_countAlikeAtStart) := goodIn_app (goodIn_of _ (by decide +kernel)) ggX2_firstDifference_X1_countAlikeAtStart
set_option maxRecDepth 20000 in
theorem ggX2_firstDifference_X2_keyAt : GoodIn wsX2_firstDifference wsX2_keyAt := goodIn_ca (goodIn_r _ [30, 31, 32, 2, 33, 34, 35, 22, 36, 24, 37, 38, 39] (by decide +kernel) (by decide +kernel)) (goodIn_sub (fun _ h => List.mem_cons_of_mem _ (List.mem_append_right _ h)) (by decide +kernel))
set_option maxRecDepth 20000 in
theorem gX2_firstDifference_X2_keyAt : GoodIn wsX2_firstDifference (va_wsS RX2 104 yX2_keyAt wsX2_keyAt) := goodIn_app (goodIn_of _ (by decide +kernel)) ggX2_firstDifference_X2_keyAt
theorem dX2_firstDifference_0 : decode cX2_firstDifference 0 = .ok (.aload_n 0, 1) := by decide +kernel
theorem dX2_firstDifference_1 : decode cX2_firstDifference 1 = .ok (.iload_n 1, 1) := by decide +kernel
theorem dX2_firstDifference_2 : decode cX2_firstDifference 2 = .ok (.invokevirtual 78, 3) := by decide +kernel
theorem dX2_firstDifference_5 : decode cX2_firstDifference 5 = .ok (.astore_n 3, 1) := by decide +kernel
theorem dX2_firstDifference_6 : decode cX2_firstDifference 6 = .ok (.aload_n 0, 1) := by decide +kernel
theorem dX2_firstDifference_7 : decode cX2_firstDifference 7 = .ok (.iload_n 2, 1) := by decide +kernel
theorem dX2_firstDifference_8 : decode cX2_firstDifference 8 = .ok (.invokevirtual 78, 3) := by decide +kernel
theorem dX2_firstDifference_11 : decode cX2_firstDifference 11 = .ok (.astore 4, 2) := by decide +kernel
theorem dX2_firstDifference_13 : decode cX2_firstDifference 13 = .ok (.aload_n 3, 1) := by decide +kernel
theorem dX2_firstDifference_14 : decode cX2_firstDifference 14 = .ok (.aload 4, 2) := by decide +kernel
theorem dX2_firstDifference_16 : decode cX2_firstDifference 16 = .ok (.invokevirtual 118, 3) := by decide +kernel
theorem dX2_firstDifference_19 : decode cX2_firstDifference 19 = .ok (.istore 5, 2) := by decide +kernel
theorem dX2_firstDifference_21 : decode cX2_firstDifference 21 = .ok (.iload 5, 2) := by decide +kernel
theorem dX2_firstDifference_23 : decode cX2_firstDifference 23 = .ok (.aload_n 3, 1) := by decide +kernel
theorem dX2_firstDifference_24 : decode cX2_firstDifference 24 = .ok (.getfield 46, 3) := by decide +kernel
theorem dX2_firstDifference_27 : decode cX2_firstDifference 27 = .ok (.if_icmp .lt 11, 3) := by decide +kernel
theorem dX2_firstDifference_30 : decode cX2_firstDifference 30 = .ok (.aload 4, 2) := by decide +kernel
theorem dX2_firstDifference_32 : decode cX2_firstDifference 32 = .ok (.iload 5, 2) := by decide +kernel
theorem dX2_firstDifference_34 : decode cX2_firstDifference 34 = .ok (.invokestatic 104, 3) := by decide +kernel
theorem dX2_firstDifference_37 : decode cX2_firstDifference 37 = .ok (.ireturn, 1) := by decide +kernel
theorem dX2_firstDifference_38 : decode cX2_firstDifference 38 = .ok (.iload 5, 2) := by decide +kernel
theorem dX2_firstDifference_40 : decode cX2_firstDifference 40 = .ok (.aload 4, 2) := by decide +kernel
theorem dX2_firstDifference_42 : decode cX2_firstDifference 42 = .ok (.getfield 46, 3) := by decide +kernel
theorem dX2_firstDifference_45 : decode cX2_firstDifference 45 = .ok (.if_icmp .lt 10, 3) := by decide +kernel
theorem dX2_firstDifference_48 : decode cX2_firstDifference 48 = .ok (.aload_n 3, 1) := by decide +kernel
theorem dX2_firstDifference_49 : decode cX2_firstDifference 49 = .ok (.iload 5, 2) := by decide +kernel
theorem dX2_firstDifference_51 : decode cX2_firstDifference 51 = .ok (.invokestatic 104, 3) := by decide +kernel
theorem dX2_firstDifference_54 : decode cX2_firstDifference 54 = .ok (.ireturn, 1) := by decide +kernel
theorem dX2_firstDifference_55 : decode cX2_firstDifference 55 = .ok (.aload_n 3, 1) := by decide +kernel
theorem dX2_firstDifference_56 : decode cX2_firstDifference 56 = .ok (.getfield 122, 3) := by decide +kernel
theorem dX2_firstDifference_59 : decode cX2_firstDifference 59 = .ok (.iload 5, 2) := by decide +kernel
theorem dX2_firstDifference_61 : decode cX2_firstDifference 61 = .ok (.iaload, 1) := by decide +kernel
theorem dX2_firstDifference_62 : decode cX2_firstDifference 62 = .ok (.aload 4, 2) := by decide +kernel
theorem dX2_firstDifference_64 : decode cX2_firstDifference 64 = .ok (.getfield 122, 3) := by decide +kernel
theorem dX2_firstDifference_67 : decode cX2_firstDifference 67 = .ok (.iload 5, 2) := by decide +kernel
theorem dX2_firstDifference_69 : decode cX2_firstDifference 69 = .ok (.iaload, 1) := by decide +kernel
theorem dX2_firstDifference_70 : decode cX2_firstDifference 70 = .ok (.invokestatic 125, 3) := by decide +kernel
theorem dX2_firstDifference_73 : decode cX2_firstDifference 73 = .ok (.ireturn, 1) := by decide +kernel
set_option maxRecDepth 20000 in
theorem ggX2_open_X2_mapOf : GoodIn wsX2_open wsX2_mapOf := goodIn_ca (goodIn_r _ [9, 10, 11, 12, 13, 14, 15, 8, 16, 60, 61, 62, 63, 64] (by decide +kernel) (by decide +kernel)) (goodIn_sub (fun _ h => List.mem_cons_of_mem _ (List.mem_append_right _ h)) (by decide +kernel))
set_option maxRecDepth 20000 in
theorem gX2_open_X2_mapOf : GoodIn wsX2_open (wsV RX2 78 RX2 yX2_mapOf wsX2_mapOf) := goodIn_app (goodIn_of _ (by decide +kernel)) ggX2_open_X2_mapOf
set_option maxRecDepth 20000 in
theorem ggX2_open_X2_leastFree : GoodIn wsX2_open wsX2_leastFree := goodIn_r _ [19] (by decide +kernel) (by decide +kernel)
set_option maxRecDepth 20000 in
theorem gX2_open_X2_leastFree : GoodIn wsX2_open (va_wsS RX2 90 yX2_leastFree wsX2_leastFree) := goodIn_app (goodIn_of _ (by decide +kernel)) ggX2_open_X2_leastFree
set_option maxRecDepth 20000 in
theorem ggX2_open_X0_start : GoodIn wsX2_open wsX0_start := goodIn_r _ [24, 25, 26, 27, 28, 29, 30, 31, 32, 33, 34, 35, 36, 37, 38, 39, 40, 41, 42, 43, 44, 45, 46, 47, 48, 49, 50, 51, 52, 53, 54, 55, 56, 57, 58, 59, 65, 66, 67, 68, 69, 70] (by decide +kernel) (by decide +kernel)
set_option maxRecDepth 20000 in
theorem gX2_open_X0_start : GoodIn wsX2_open (wsV RX2 128 RX0 yX0_start wsX0_start) := goodIn_app (goodIn_of _ (by decide +kernel)) ggX2_open_X0_start
theorem dX2_open_0 : decode cX2_open 0 = .ok (.aload_n 0, 1) := by decide +kernel
theorem dX2_open_1 : decode cX2_open 1 = .ok (.iload_n 1, 1) := by decide +kernel
theorem dX2_open_2 : decode cX2_open 2 = .ok (.invokevirtual 78, 3) := by decide +kernel
theorem dX2_open_5 : decode cX2_open 5 = .ok (.astore 4, 2) := by decide +kernel
theorem dX2_open_7 : decode cX2_open 7 = .ok (.aload_n 0, 1) := by decide +kernel
theorem dX2_open_8 : decode cX2_open 8 = .ok (.getfield 30, 3) := by decide +kernel
theorem dX2_open_11 : decode cX2_open 11 = .ok (.iconst 0, 1) := by decide +kernel
theorem dX2_open_12 : decode cX2_open 12 = .ok (.invokestatic 90, 3) := by decide +kernel
theorem dX2_open_15 : decode cX2_open 15 = .ok (.istore 5, 2) := by decide +kernel
theorem dX2_open_17 : decode cX2_open 17 = .ok (.iload 5, 2) := by decide +kernel
theorem dX2_open_19 : decode cX2_open 19 = .ok (.aload_n 0, 1) := by decide +kernel
theorem dX2_open_20 : decode cX2_open 20 = .ok (.getfield 30, 3) := by decide +kernel
theorem dX2_open_23 : decode cX2_open 23 = .ok (.arraylength, 1) := by decide +kernel
theorem dX2_open_24 : decode cX2_open 24 = .ok (.if_icmp .ne 11, 3) := by decide +kernel
theorem dX2_open_27 : decode cX2_open 27 = .ok (.new 50, 3) := by decide +kernel
theorem dX2_open_30 : decode cX2_open 30 = .ok (.dup, 1) := by decide +kernel
theorem dX2_open_31 : decode cX2_open 31 = .ok (.invokespecial 52, 3) := by decide +kernel
theorem dX2_open_34 : decode cX2_open 34 = .ok (.athrow, 1) := by decide +kernel
theorem dX2_open_35 : decode cX2_open 35 = .ok (.aload_n 0, 1) := by decide +kernel
theorem dX2_open_36 : decode cX2_open 36 = .ok (.getfield 26, 3) := by decide +kernel
theorem dX2_open_39 : decode cX2_open 39 = .ok (.iload 5, 2) := by decide +kernel
theorem dX2_open_41 : decode cX2_open 41 = .ok (.aaload, 1) := by decide +kernel
theorem dX2_open_42 : decode cX2_open 42 = .ok (.aload 4, 2) := by decide +kernel
theorem dX2_open_44 : decode cX2_open 44 = .ok (.iload_n 2, 1) := by decide +kernel
theorem dX2_open_45 : decode cX2_open 45 = .ok (.iload_n 3, 1) := by decide +kernel
theorem dX2_open_46 : decode cX2_open 46 = .ok (.invokevirtual 128, 3) := by decide +kernel
theorem dX2_open_49 : decode cX2_open 49 = .ok (.aload_n 0, 1) := by decide +kernel
theorem dX2_open_50 : decode cX2_open 50 = .ok (.getfield 30, 3) := by decide +kernel
theorem dX2_open_53 : decode cX2_open 53 = .ok (.iload 5, 2) := by decide +kernel
theorem dX2_open_55 : decode cX2_open 55 = .ok (.iconst 1, 1) := by decide +kernel
theorem dX2_open_56 : decode cX2_open 56 = .ok (.bastore, 1) := by decide +kernel
theorem dX2_open_57 : decode cX2_open 57 = .ok (.iload 5, 2) := by decide +kernel
theorem dX2_open_59 : decode cX2_open 59 = .ok (.ireturn, 1) := by decide +kernel
set_option maxRecDepth 20000 in
theorem ggX2_next_X2_cursorOf : GoodIn wsX2_next wsX2_cursorOf := goodIn_ca (goodIn_r _ [7, 8, 9, 10, 11, 12, 13, 6, 14, 37, 38, 39, 40, 41] (by decide +kernel) (by decide +kernel)) (goodIn_sub (fun _ h => List.mem_cons_of_mem _ (List.mem_append_left _ (List.mem_append_right _ h))) (by decide +kernel))
set_option maxRecDepth 20000 in
theorem gX2_next_X2_cursorOf : GoodIn wsX2_next (wsV RX2 132 RX2 yX2_cursorOf wsX2_cursorOf) := goodIn_app (goodIn_of _ (by decide +kernel)) ggX2_next_X2_cursorOf
set_option maxRecDepth 20000 in
theorem ggX2_next_X2_keyAt : GoodIn wsX2_next wsX2_keyAt := goodIn_ca (goodIn_r _ [17, 18, 19, 20, 21, 22, 23, 24, 25, 26, 42, 43, 44] (by decide +kernel) (by decide +kernel)) (goodIn_sub (fun _ h => List.mem_cons_of_mem _ (List.mem_append_right _ h)) (by decide +kernel))
set_option maxRecDepth 20000 in
theorem gX2_next_X2_keyAt : GoodIn wsX2_next (va_wsS RX2 104 yX2_keyAt wsX2_keyAt) := goodIn_app (goodIn_of _ (by decide +kernel)) ggX2_next_X2_keyAt
set_option maxRecDepth 20000 in
theorem ggX2_next_X0_goOver : GoodIn wsX2_next wsX0_goOver := goodIn_r _ [31, 32, 33, 34, 35, 36] (by decide +kernel) (by decide +kernel)
set_option maxRecDepth 20000 in
theorem gX2_next_X0_goOver : GoodIn wsX2_next (wsV RX2 142 RX0 yX0_goOver wsX0_goOver) := goodIn_app (goodIn_of _ (by decide +kernel)) ggX2_next_X0_goOver
theorem dX2_next_0 : decode cX2_next 0 = .ok (.aload_n 0, 1) := by decide +kernel
theorem dX2_next_1 : decode cX2_next 1 = .ok (.iload_n 1, 1) := by decide +kernel
theorem dX2_next_2 : decode cX2_next 2 = .ok (.invokevirtual 132, 3) := by decide +kernel
theorem dX2_next_5 : decode cX2_next 5 = .ok (.astore_n 2, 1) := by decide +kernel
theorem dX2_next_6 : decode cX2_next 6 = .ok (.aload_n 2, 1) := by decide +kernel
theorem dX2_next_7 : decode cX2_next 7 = .ok (.getfield 136, 3) := by decide +kernel
theorem dX2_next_10 : decode cX2_next 10 = .ok (.aload_n 2, 1) := by decide +kernel
theorem dX2_next_11 : decode cX2_next 11 = .ok (.getfield 139, 3) := by decide +kernel
theorem dX2_next_14 : decode cX2_next 14 = .ok (.invokestatic 104, 3) := by decide +kernel
theorem dX2_next_17 : decode cX2_next 17 = .ok (.istore_n 3, 1) := by decide +kernel
theorem dX2_next_18 : decode cX2_next 18 = .ok (.aload_n 2, 1) := by decide +kernel
theorem dX2_next_19 : decode cX2_next 19 = .ok (.iconst 1, 1) := by decide +kernel
theorem dX2_next_20 : decode cX2_next 20 = .ok (.invokevirtual 142, 3) := by decide +kernel
theorem dX2_next_23 : decode cX2_next 23 = .ok (.iload_n 3, 1) := by decide +kernel
theorem dX2_next_24 : decode cX2_next 24 = .ok (.ireturn, 1) := by decide +kernel
set_option maxRecDepth 20000 in
theorem ggX2_skip_X2_cursorOf : GoodIn wsX2_skip wsX2_cursorOf := goodIn_ca (goodIn_r _ [11, 12, 13, 14, 15, 16, 17, 10, 18, 32, 33, 34, 35, 36] (by decide +kernel) (by decide +kernel)) (goodIn_sub (fun _ h => List.mem_cons_of_mem _ (List.mem_append_right _ h)) (by decide +kernel))
set_option maxRecDepth 20000 in
theorem gX2_skip_X2_cursorOf : GoodIn wsX2_skip (wsV RX2 132 RX2 yX2_cursorOf wsX2_cursorOf) := goodIn_app (goodIn_of _ (by decide +kernel)) ggX2_skip_X2_cursorOf
set_option maxRecDepth 20000 in
theorem ggX2_skip_X0_countLeft : GoodIn wsX2_skip wsX0_countLeft := goodIn_r _ [23, 24, 25, 26, 27, 37, 38, 39, 40, 41, 42] (by decide +kernel) (by decide +kernel)
set_option maxRecDepth 20000 in
theorem gX2_skip_X0_countLeft : GoodIn wsX2_skip (wsV RX2 146 RX0 yX0_countLeft wsX0_countLeft) := goodIn_app (goodIn_of _ (by decide +kernel)) ggX2_skip_X0_countLeft
set_option maxRecDepth 20000 in
theorem ggX2_skip_X0_goOver : GoodIn wsX2_skip wsX0_goOver := goodIn_r _ [31, 25, 24, 37, 38, 39] (by decide +kernel) (by decide +kernel)
set_option maxRecDepth 20000 in
theorem gX2_skip_X0_goOver : GoodIn wsX2_skip (wsV RX2 142 RX0 yX0_goOver wsX0_goOver) := goodIn_app (goodIn_of _ (by decide +kernel)) ggX2_skip_X0_goOver
theorem dX2_skip_0 : decode cX2_skip 0 = .ok (.aload_n 0, 1) := by decide +kernel
theorem dX2_skip_1 : decode cX2_skip 1 = .ok (.iload_n 1, 1) := by decide +kernel
theorem dX2_skip_2 : decode cX2_skip 2 = .ok (.invokevirtual 132, 3) := by decide +kernel
theorem dX2_skip_5 : decode cX2_skip 5 = .ok (.astore_n 3, 1) := by decide +kernel
theorem dX2_skip_6 : decode cX2_skip 6 = .ok (.iload_n 2, 1) := by decide +kernel
theorem dX2_skip_7 : decode cX2_skip 7 = .ok (.ifCond .ge 11, 3) := by decide +kernel
theorem dX2_skip_10 : decode cX2_skip 10 = .ok (.new 64, 3) := by decide +kernel
theorem dX2_skip_13 : decode cX2_skip 13 = .ok (.dup, 1) := by decide +kernel
theorem dX2_skip_14 : decode cX2_skip 14 = .ok (.invokespecial 66, 3) := by decide +kernel
theorem dX2_skip_17 : decode cX2_skip 17 = .ok (.athrow, 1) := by decide +kernel
theorem dX2_skip_18 : decode cX2_skip 18 = .ok (.iload_n 2, 1) := by decide +kernel
theorem dX2_skip_19 : decode cX2_skip 19 = .ok (.aload_n 3, 1) := by decide +kernel
theorem dX2_skip_20 : decode cX2_skip 20 = .ok (.invokevirtual 146, 3) := by decide +kernel
theorem dX2_skip_23 : decode cX2_skip 23 = .ok (.invokestatic 125, 3) := by decide +kernel
theorem dX2_skip_26 : decode cX2_skip 26 = .ok (.istore 4, 2) := by decide +kernel
theorem dX2_skip_28 : decode cX2_skip 28 = .ok (.aload_n 3, 1) := by decide +kernel
theorem dX2_skip_29 : decode cX2_skip 29 = .ok (.iload 4, 2) := by decide +kernel
theorem dX2_skip_31 : decode cX2_skip 31 = .ok (.invokevirtual 142, 3) := by decide +kernel
theorem dX2_skip_34 : decode cX2_skip 34 = .ok (.iload 4, 2) := by decide +kernel
theorem dX2_skip_36 : decode cX2_skip 36 = .ok (.ireturn, 1) := by decide +kernel
set_option maxRecDepth 20000 in
theorem ggX2_peek_X2_cursorOf : GoodIn wsX2_peek wsX2_cursorOf := goodIn_ca (goodIn_r _ [10, 11, 12, 13, 14, 15, 16, 9, 17, 30, 31, 32, 33, 34] (by decide +kernel) (by decide +kernel)) (goodIn_sub (fun _ h => List.mem_cons_of_mem _ (List.mem_append_right _ h)) (by decide +kernel))
set_option maxRecDepth 20000 in
theorem gX2_peek_X2_cursorOf : GoodIn wsX2_peek (wsV RX2 132 RX2 yX2_cursorOf wsX2_cursorOf) := goodIn_app (goodIn_of _ (by decide +kernel)) ggX2_peek_X2_cursorOf
set_option maxRecDepth 20000 in
theorem ggX2_peek_X1_isWithin : GoodIn wsX2_peek wsX1_isWithin := goodIn_r _ [22, 23, 27, 28, 29] (by decide +kernel) (by decide +kernel)
set_option maxRecDepth 20000 in
theorem gX2_peek_X1_isWithin : GoodIn wsX2_peek (wsV RX2 150 RX1 yX1_isWithin wsX1_isWithin) := goodIn_app (goodIn_of _ (by decide +kernel)) ggX2_peek_X1_isWithin
theorem dX2_peek_0 : decode cX2_peek 0 = .ok (.aload_n 0, 1) := by decide +kernel
theorem dX2_peek_1 : decode cX2_peek 1 = .ok (.iload_n 1, 1) := by decide +kernel
theorem dX2_peek_2 : decode cX2_peek 2 = .ok (.invokevirtual 132, 3) := by decide +kernel
theorem dX2_peek_5 : decode cX2_peek 5 = .ok (.astore_n 2, 1) := by decide +kernel
theorem dX2_peek_6 : decode cX2_peek 6 = .ok (.aload_n 2, 1) := by decide +kernel
theorem dX2_peek_7 : decode cX2_peek 7 = .ok (.getfield 136, 3) := by decide +kernel
theorem dX2_peek_10 : decode cX2_peek 10 = .ok (.aload_n 2, 1) := by decide +kernel
theorem dX2_peek_11 : decode cX2_peek 11 = .ok (.getfield 139, 3) := by decide +kernel
theorem dX2_peek_14 : decode cX2_peek 14 = .ok (.invokevirtual 150, 3) := by decide +kernel
theorem dX2_peek_17 : decode cX2_peek 17 = .ok (.ifCond .ne 11, 3) := by decide +kernel
theorem dX2_peek_20 : decode cX2_peek 20 = .ok (.new 57, 3) := by decide +kernel
theorem dX2_peek_23 : decode cX2_peek 23 = .ok (.dup, 1) := by decide +kernel
theorem dX2_peek_24 : decode cX2_peek 24 = .ok (.invokespecial 59, 3) := by decide +kernel
theorem dX2_peek_27 : decode cX2_peek 27 = .ok (.athrow, 1) := by decide +kernel
theorem dX2_peek_28 : decode cX2_peek 28 = .ok (.aload_n 2, 1) := by decide +kernel
theorem dX2_peek_29 : decode cX2_peek 29 = .ok (.getfield 136, 3) := by decide +kernel
theorem dX2_peek_32 : decode cX2_peek 32 = .ok (.getfield 42, 3) := by decide +kernel
theorem dX2_peek_35 : decode cX2_peek 35 = .ok (.aload_n 2, 1) := by decide +kernel
theorem dX2_peek_36 : decode cX2_peek 36 = .ok (.getfield 139, 3) := by decide +kernel
theorem dX2_peek_39 : decode cX2_peek 39 = .ok (.iaload, 1) := by decide +kernel
theorem dX2_peek_40 : decode cX2_peek 40 = .ok (.ireturn, 1) := by decide +kernel
set_option maxRecDepth 20000 in
theorem ggX2_close_X2_cursorOf : GoodIn wsX2_close wsX2_cursorOf := goodIn_ca (goodIn_r _ [6, 7, 8, 1, 9, 10, 11, 5, 12, 24, 25, 26, 27, 28] (by decide +kernel) (by decide +kernel)) (goodIn_sub (fun _ h => List.mem_cons_of_mem _ (List.mem_append_right _ h)) (by decide +kernel))
set_option maxRecDepth 20000 in
theorem gX2_close_X2_cursorOf : GoodIn wsX2_close (wsV RX2 132 RX2 yX2_cursorOf wsX2_cursorOf) := goodIn_app (goodIn_of _ (by decide +kernel)) ggX2_close_X2_cursorOf
set_option maxRecDepth 20000 in
theorem ggX2_close_X0_stop : GoodIn wsX2_close wsX0_stop := goodIn_r _ [17, 18, 19, 20, 29, 30, 31, 32, 33, 34] (by decide +kernel) (by decide +kernel)
set_option maxRecDepth 20000 in
theorem gX2_close_X0_stop : GoodIn wsX2_close (wsV RX2 154 RX0 yX0_stop wsX0_stop) := goodIn_app (goodIn_of _ (by decide +kernel)) ggX2_close_X0_stop
set_option maxRecDepth 20000 in
theorem ggX2_close_X2_countTaken : GoodIn wsX2_close wsX2_countTaken := goodIn_r _ [23] (by decide +kernel) (by decide +kernel)
set_option maxRecDepth 20000 in
theorem gX2_close_X2_countTaken : GoodIn wsX2_close (va_wsS RX2 101 yX2_countTaken wsX2_countTaken) := goodIn_app (goodIn_of _ (by decide +kernel)) ggX2_close_X2_countTaken
theorem dX2_close_0 : decode cX2_close 0 = .ok (.aload_n 0, 1) := by decide +kernel
theorem dX2_close_1 : decode cX2_close 1 = .ok (.iload_n 1, 1) := by decide +kernel
theorem dX2_close_2 : decode cX2_close 2 = .ok (.invokevirtual 132, 3) := by decide +kernel
theorem dX2_close_5 : decode cX2_close 5 = .ok (.invokevirtual 154, 3) := by decide +kernel
theorem dX2_close_8 : decode cX2_close 8 = .ok (.aload_n 0, 1) := by decide +kernel
theorem dX2_close_9 : decode cX2_close 9 = .ok (.getfield 30, 3) := by decide +kernel
theorem dX2_close_12 : decode cX2_close 12 = .ok (.iload_n 1, 1) := by decide +kernel
theorem dX2_close_13 : decode cX2_close 13 = .ok (.iconst 0, 1) := by decide +kernel
theorem dX2_close_14 : decode cX2_close 14 = .ok (.bastore, 1) := by decide +kernel
theorem dX2_close_15 : decode cX2_close 15 = .ok (.aload_n 0, 1) := by decide +kernel
theorem dX2_close_16 : decode cX2_close 16 = .ok (.getfield 30, 3) := by decide +kernel
theorem dX2_close_19 : decode cX2_close 19 = .ok (.iconst 0, 1) := by decide +kernel
theorem dX2_close_20 : decode cX2_close 20 = .ok (.invokestatic 101, 3) := by decide +kernel
theorem dX2_close_23 : decode cX2_close 23 = .ok (.ireturn, 1) := by decide +kernel
set_option maxRecDepth 20000 in
theorem ggX2_astray_X1_countWrong : GoodIn wsX2_astray wsX1_countWrong := goodIn_r _ [9, 10, 11, 26, 27, 28] (by decide +kernel) (by decide +kernel)
set_option maxRecDepth 20000 in
theorem gX2_astray_X1_countWrong : GoodIn wsX2_astray (wsV RX2 157 RX1 yX1_countWrong wsX1_countWrong) := goodIn_app (goodIn_of _ (by decide +kernel)) ggX2_astray_X1_countWrong
set_option maxRecDepth 20000 in
theorem ggX2_astray_X0_countWrong : GoodIn wsX2_astray wsX0_countWrong := goodIn_r _ [16, 17, 18, 19, 20, 6, 7, 8, 9, 10, 11, 29, 30, 31, 26, 27, 28] (by decide +kernel) (by decide +kernel)
set_option maxRecDepth 20000 in
theorem gX2_astray_X0_countWrong : GoodIn wsX2_astray (wsV RX2 161 RX0 yX0_countWrong wsX0_countWrong) := goodIn_app (goodIn_of _ (by decide +kernel)) ggX2_astray_X0_countWrong
theorem dX2_astray_0 : decode cX2_astray 0 = .ok (.aload_n 0, 1) := by decide +kernel
theorem dX2_astray_1 : decode cX2_astray 1 = .ok (.getfield 20, 3) := by decide +kernel
theorem dX2_astray_4 : decode cX2_astray 4 = .ok (.iconst 0, 1) := by decide +kernel
theorem dX2_astray_5 : decode cX2_astray 5 = .ok (.baload, 1) := by decide +kernel
theorem dX2_astray_6 : decode cX2_astray 6 = .ok (.ifCond .eq 7, 3) := by decide +kernel
theorem dX2_astray_9 : decode cX2_astray 9 = .ok (.iconst 0, 1) := by decide +kernel
theorem dX2_astray_10 : decode cX2_astray 10 = .ok (.goto 4, 3) := by decide +kernel
theorem dX2_astray_13 : decode cX2_astray 13 = .ok (.iconst 1, 1) := by decide +kernel
theorem dX2_astray_14 : decode cX2_astray 14 = .ok (.istore_n 1, 1) := by decide +kernel
theorem dX2_astray_15 : decode cX2_astray 15 = .ok (.iconst 0, 1) := by decide +kernel
theorem dX2_astray_16 : decode cX2_astray 16 = .ok (.istore_n 2, 1) := by decide +kernel
theorem dX2_astray_17 : decode cX2_astray 17 = .ok (.iload_n 2, 1) := by decide +kernel
theorem dX2_astray_18 : decode cX2_astray 18 = .ok (.aload_n 0, 1) := by decide +kernel
theorem dX2_astray_19 : decode cX2_astray 19 = .ok (.getfield 16, 3) := by decide +kernel
theorem dX2_astray_22 : decode cX2_astray 22 = .ok (.arraylength, 1) := by decide +kernel
theorem dX2_astray_23 : decode cX2_astray 23 = .ok (.if_icmp .ge 27, 3) := by decide +kernel
theorem dX2_astray_26 : decode cX2_astray 26 = .ok (.iload_n 1, 1) := by decide +kernel
theorem dX2_astray_27 : decode cX2_astray 27 = .ok (.aload_n 0, 1) := by decide +kernel
theorem dX2_astray_28 : decode cX2_astray 28 = .ok (.getfield 16, 3) := by decide +kernel
theorem dX2_astray_31 : decode cX2_astray 31 = .ok (.iload_n 2, 1) := by decide +kernel
theorem dX2_astray_32 : decode cX2_astray 32 = .ok (.aaload, 1) := by decide +kernel
theorem dX2_astray_33 : decode cX2_astray 33 = .ok (.aload_n 0, 1) := by decide +kernel
theorem dX2_astray_34 : decode cX2_astray 34 = .ok (.getfield 20, 3) := by decide +kernel
theorem dX2_astray_37 : decode cX2_astray 37 = .ok (.iload_n 2, 1) := by decide +kernel
theorem dX2_astray_38 : decode cX2_astray 38 = .ok (.baload, 1) := by decide +kernel
theorem dX2_astray_39 : decode cX2_astray 39 = .ok (.invokevirtual 157, 3) := by decide +kernel
theorem dX2_astray_42 : decode cX2_astray 42 = .ok (.iadd, 1) := by decide +kernel
theorem dX2_astray_43 : decode cX2_astray 43 = .ok (.istore_n 1, 1) := by decide +kernel
theorem dX2_astray_44 : decode cX2_astray 44 = .ok (.iinc 2 1, 3) := by decide +kernel
theorem dX2_astray_47 : decode cX2_astray 47 = .ok (.goto (-30), 3) := by decide +kernel
theorem dX2_astray_50 : decode cX2_astray 50 = .ok (.iconst 0, 1) := by decide +kernel
theorem dX2_astray_51 : decode cX2_astray 51 = .ok (.istore_n 2, 1) := by decide +kernel
theorem dX2_astray_52 : decode cX2_astray 52 = .ok (.iload_n 2, 1) := by decide +kernel
theorem dX2_astray_53 : decode cX2_astray 53 = .ok (.aload_n 0, 1) := by decide +kernel
theorem dX2_astray_54 : decode cX2_astray 54 = .ok (.getfield 26, 3) := by decide +kernel
theorem dX2_astray_57 : decode cX2_astray 57 = .ok (.arraylength, 1) := by decide +kernel
theorem dX2_astray_58 : decode cX2_astray 58 = .ok (.if_icmp .ge 27, 3) := by decide +kernel
theorem dX2_astray_61 : decode cX2_astray 61 = .ok (.iload_n 1, 1) := by decide +kernel
theorem dX2_astray_62 : decode cX2_astray 62 = .ok (.aload_n 0, 1) := by decide +kernel
theorem dX2_astray_63 : decode cX2_astray 63 = .ok (.getfield 26, 3) := by decide +kernel
theorem dX2_astray_66 : decode cX2_astray 66 = .ok (.iload_n 2, 1) := by decide +kernel
theorem dX2_astray_67 : decode cX2_astray 67 = .ok (.aaload, 1) := by decide +kernel
theorem dX2_astray_68 : decode cX2_astray 68 = .ok (.aload_n 0, 1) := by decide +kernel
theorem dX2_astray_69 : decode cX2_astray 69 = .ok (.getfield 30, 3) := by decide +kernel
theorem dX2_astray_72 : decode cX2_astray 72 = .ok (.iload_n 2, 1) := by decide +kernel
theorem dX2_astray_73 : decode cX2_astray 73 = .ok (.baload, 1) := by decide +kernel
theorem dX2_astray_74 : decode cX2_astray 74 = .ok (.invokevirtual 161, 3) := by decide +kernel
theorem dX2_astray_77 : decode cX2_astray 77 = .ok (.iadd, 1) := by decide +kernel
theorem dX2_astray_78 : decode cX2_astray 78 = .ok (.istore_n 1, 1) := by decide +kernel
theorem dX2_astray_79 : decode cX2_astray 79 = .ok (.iinc 2 1, 3) := by decide +kernel
theorem dX2_astray_82 : decode cX2_astray 82 = .ok (.goto (-30), 3) := by decide +kernel
theorem dX2_astray_85 : decode cX2_astray 85 = .ok (.iload_n 1, 1) := by decide +kernel
theorem dX2_astray_86 : decode cX2_astray 86 = .ok (.ireturn, 1) := by decide +kernel
set_option maxRecDepth 20000 in
theorem ggX2_mapOf_X2_isTaken : GoodIn wsX2_mapOf wsX2_isTaken := goodIn_r _ [8] (by decide +kernel) (by decide +kernel)
set_option maxRecDepth 20000 in
theorem gX2_mapOf_X2_isTaken : GoodIn wsX2_mapOf (va_wsS RX2 162 yX2_isTaken wsX2_isTaken) := goodIn_app (goodIn_of _ (by decide +kernel)) ggX2_mapOf_X2_isTaken
theorem dX2_mapOf_0 : decode cX2_mapOf 0 = .ok (.aload_n 0, 1) := by decide +kernel
theorem dX2_mapOf_1 : decode cX2_mapOf 1 = .ok (.getfield 20, 3) := by decide +kernel
theorem dX2_mapOf_4 : decode cX2_mapOf 4 = .ok (.iload_n 1, 1) := by decide +kernel
theorem dX2_mapOf_5 : decode cX2_mapOf 5 = .ok (.invokestatic 162, 3) := by decide +kernel
theorem dX2_mapOf_8 : decode cX2_mapOf 8 = .ok (.ifCond .ne 11, 3) := by decide +kernel
theorem dX2_mapOf_11 : decode cX2_mapOf 11 = .ok (.new 166, 3) := by decide +kernel
theorem dX2_mapOf_14 : decode cX2_mapOf 14 = .ok (.dup, 1) := by decide +kernel
theorem dX2_mapOf_15 : decode cX2_mapOf 15 = .ok (.invokespecial 168, 3) := by decide +kernel
theorem dX2_mapOf_18 : decode cX2_mapOf 18 = .ok (.athrow, 1) := by decide +kernel
theorem dX2_mapOf_19 : decode cX2_mapOf 19 = .ok (.aload_n 0, 1) := by decide +kernel
theorem dX2_mapOf_20 : decode cX2_mapOf 20 = .ok (.getfield 16, 3) := by decide +kernel
theorem dX2_mapOf_23 : decode cX2_mapOf 23 = .ok (.iload_n 1, 1) := by decide +kernel
theorem dX2_mapOf_24 : decode cX2_mapOf 24 = .ok (.aaload, 1) := by decide +kernel
theorem dX2_mapOf_25 : decode cX2_mapOf 25 = .ok (.areturn, 1) := by decide +kernel
set_option maxRecDepth 20000 in
theorem ggX2_snapshotOf_X2_mapOf : GoodIn wsX2_snapshotOf wsX2_mapOf := goodIn_ca (goodIn_r _ [7, 1, 2, 8, 9, 10, 11, 6, 12, 13, 14, 15, 16, 17] (by decide +kernel) (by decide +kernel)) (goodIn_sub (fun _ h => List.mem_cons_of_mem _ (List.mem_append_right _ h)) (by decide +kernel))
set_option maxRecDepth 20000 in
theorem gX2_snapshotOf_X2_mapOf : GoodIn wsX2_snapshotOf (wsV RX2 78 RX2 yX2_mapOf wsX2_mapOf) := goodIn_app (goodIn_of _ (by decide +kernel)) ggX2_snapshotOf_X2_mapOf
theorem dX2_snapshotOf_0 : decode cX2_snapshotOf 0 = .ok (.iload_n 1, 1) := by decide +kernel
theorem dX2_snapshotOf_1 : decode cX2_snapshotOf 1 = .ok (.iconst 1, 1) := by decide +kernel
theorem dX2_snapshotOf_2 : decode cX2_snapshotOf 2 = .ok (.if_icmp .ge 11, 3) := by decide +kernel
theorem dX2_snapshotOf_5 : decode cX2_snapshotOf 5 = .ok (.new 166, 3) := by decide +kernel
theorem dX2_snapshotOf_8 : decode cX2_snapshotOf 8 = .ok (.dup, 1) := by decide +kernel
theorem dX2_snapshotOf_9 : decode cX2_snapshotOf 9 = .ok (.invokespecial 168, 3) := by decide +kernel
theorem dX2_snapshotOf_12 : decode cX2_snapshotOf 12 = .ok (.athrow, 1) := by decide +kernel
theorem dX2_snapshotOf_13 : decode cX2_snapshotOf 13 = .ok (.aload_n 0, 1) := by decide +kernel
theorem dX2_snapshotOf_14 : decode cX2_snapshotOf 14 = .ok (.iload_n 1, 1) := by decide +kernel
theorem dX2_snapshotOf_15 : decode cX2_snapshotOf 15 = .ok (.invokevirtual 78, 3) := by decide +kernel
theorem dX2_snapshotOf_18 : decode cX2_snapshotOf 18 = .ok (.areturn, 1) := by decide +kernel
set_option maxRecDepth 20000 in
theorem ggX2_cursorOf_X2_isTaken : GoodIn wsX2_cursorOf wsX2_isTaken := goodIn_r _ [8] (by decide +kernel) (by decide +kernel)
set_option maxRecDepth 20000 in
theorem gX2_cursorOf_X2_isTaken : GoodIn wsX2_cursorOf (va_wsS RX2 162 yX2_isTaken wsX2_isTaken) := goodIn_app (goodIn_of _ (by decide +kernel)) ggX2_cursorOf_X2_isTaken
theorem dX2_cursorOf_0 : decode cX2_cursorOf 0 = .ok (.aload_n 0, 1) := by decide +kernel
theorem dX2_cursorOf_1 : decode cX2_cursorOf 1 = .ok (.getfield 30, 3) := by decide +kernel
theorem dX2_cursorOf_4 : decode cX2_cursorOf 4 = .ok (.iload_n 1, 1) := by decide +kernel
theorem dX2_cursorOf_5 : decode cX2_cursorOf 5 = .ok (.invokestatic 162, 3) := by decide +kernel
theorem dX2_cursorOf_8 : decode cX2_cursorOf 8 = .ok (.ifCond .ne 11, 3) := by decide +kernel
theorem dX2_cursorOf_11 : decode cX2_cursorOf 11 = .ok (.new 166, 3) := by decide +kernel
theorem dX2_cursorOf_14 : decode cX2_cursorOf 14 = .ok (.dup, 1) := by decide +kernel
theorem dX2_cursorOf_15 : decode cX2_cursorOf 15 = .ok (.invokespecial 168, 3) := by decide +kernel
theorem dX2_cursorOf_18 : decode cX2_cursorOf 18 = .ok (.athrow, 1) := by decide +kernel
theorem dX2_cursorOf_19 : decode cX2_cursorOf 19 = .ok (.aload_n 0, 1) := by decide +kernel
theorem dX2_cursorOf_20 : decode cX2_cursorOf 20 = .ok (.getfield 26, 3) := by decide +kernel
theorem dX2_cursorOf_23 : decode cX2_cursorOf 23 = .ok (.iload_n 1, 1) := by decide +kernel
theorem dX2_cursorOf_24 : decode cX2_cursorOf 24 = .ok (.aaload, 1) := by decide +kernel
theorem dX2_cursorOf_25 : decode cX2_cursorOf 25 = .ok (.areturn, 1) := by decide +kernel
set_option maxRecDepth 20000 in
theorem ggX2_keyAt_X1_isWithin : GoodIn wsX2_keyAt wsX1_isWithin := goodIn_r _ [8, 9, 10, 11, 12] (by decide +kernel) (by decide +kernel)
set_option maxRecDepth 20000 in
theorem gX2_keyAt_X1_isWithin : GoodIn wsX2_keyAt (wsV RX2 150 RX1 yX1_isWithin wsX1_isWithin) := goodIn_app (goodIn_of _ (by decide +kernel)) ggX2_keyAt_X1_isWithin
theorem dX2_keyAt_0 : decode cX2_keyAt 0 = .ok (.aload_n 0, 1) := by decide +kernel
theorem dX2_keyAt_1 : decode cX2_keyAt 1 = .ok (.iload_n 1, 1) := by decide +kernel
theorem dX2_keyAt_2 : decode cX2_keyAt 2 = .ok (.invokevirtual 150, 3) := by decide +kernel
theorem dX2_keyAt_5 : decode cX2_keyAt 5 = .ok (.ifCond .ne 11, 3) := by decide +kernel
theorem dX2_keyAt_8 : decode cX2_keyAt 8 = .ok (.new 57, 3) := by decide +kernel
theorem dX2_keyAt_11 : decode cX2_keyAt 11 = .ok (.dup, 1) := by decide +kernel
theorem dX2_keyAt_12 : decode cX2_keyAt 12 = .ok (.invokespecial 59, 3) := by decide +kernel
theorem dX2_keyAt_15 : decode cX2_keyAt 15 = .ok (.athrow, 1) := by decide +kernel
theorem dX2_keyAt_16 : decode cX2_keyAt 16 = .ok (.aload_n 0, 1) := by decide +kernel
theorem dX2_keyAt_17 : decode cX2_keyAt 17 = .ok (.getfield 122, 3) := by decide +kernel
theorem dX2_keyAt_20 : decode cX2_keyAt 20 = .ok (.iload_n 1, 1) := by decide +kernel
theorem dX2_keyAt_21 : decode cX2_keyAt 21 = .ok (.iaload, 1) := by decide +kernel
theorem dX2_keyAt_22 : decode cX2_keyAt 22 = .ok (.ireturn, 1) := by decide +kernel
theorem dX2_isTaken_0 : decode cX2_isTaken 0 = .ok (.iload_n 1, 1) := by decide +kernel
theorem dX2_isTaken_1 : decode cX2_isTaken 1 = .ok (.ifCond .lt 19, 3) := by decide +kernel
theorem dX2_isTaken_4 : decode cX2_isTaken 4 = .ok (.iload_n 1, 1) := by decide +kernel
theorem dX2_isTaken_5 : decode cX2_isTaken 5 = .ok (.aload_n 0, 1) := by decide +kernel
theorem dX2_isTaken_6 : decode cX2_isTaken 6 = .ok (.arraylength, 1) := by decide +kernel
theorem dX2_isTaken_7 : decode cX2_isTaken 7 = .ok (.if_icmp .ge 13, 3) := by decide +kernel
theorem dX2_isTaken_10 : decode cX2_isTaken 10 = .ok (.aload_n 0, 1) := by decide +kernel
theorem dX2_isTaken_11 : decode cX2_isTaken 11 = .ok (.iload_n 1, 1) := by decide +kernel
theorem dX2_isTaken_12 : decode cX2_isTaken 12 = .ok (.baload, 1) := by decide +kernel
theorem dX2_isTaken_13 : decode cX2_isTaken 13 = .ok (.ifCond .eq 7, 3) := by decide +kernel
theorem dX2_isTaken_16 : decode cX2_isTaken 16 = .ok (.iconst 1, 1) := by decide +kernel
theorem dX2_isTaken_17 : decode cX2_isTaken 17 = .ok (.goto 4, 3) := by decide +kernel
theorem dX2_isTaken_20 : decode cX2_isTaken 20 = .ok (.iconst 0, 1) := by decide +kernel
theorem dX2_isTaken_21 : decode cX2_isTaken 21 = .ok (.ireturn, 1) := by decide +kernel
theorem dX2_leastFree_0 : decode cX2_leastFree 0 = .ok (.iload_n 1, 1) := by decide +kernel
theorem dX2_leastFree_1 : decode cX2_leastFree 1 = .ok (.istore_n 2, 1) := by decide +kernel
theorem dX2_leastFree_2 : decode cX2_leastFree 2 = .ok (.iload_n 2, 1) := by decide +kernel
theorem dX2_leastFree_3 : decode cX2_leastFree 3 = .ok (.aload_n 0, 1) := by decide +kernel
theorem dX2_leastFree_4 : decode cX2_leastFree 4 = .ok (.arraylength, 1) := by decide +kernel
theorem dX2_leastFree_5 : decode cX2_leastFree 5 = .ok (.if_icmp .ge 17, 3) := by decide +kernel
theorem dX2_leastFree_8 : decode cX2_leastFree 8 = .ok (.aload_n 0, 1) := by decide +kernel
theorem dX2_leastFree_9 : decode cX2_leastFree 9 = .ok (.iload_n 2, 1) := by decide +kernel
theorem dX2_leastFree_10 : decode cX2_leastFree 10 = .ok (.baload, 1) := by decide +kernel
theorem dX2_leastFree_11 : decode cX2_leastFree 11 = .ok (.ifCond .ne 5, 3) := by decide +kernel
theorem dX2_leastFree_14 : decode cX2_leastFree 14 = .ok (.iload_n 2, 1) := by decide +kernel
theorem dX2_leastFree_15 : decode cX2_leastFree 15 = .ok (.ireturn, 1) := by decide +kernel
theorem dX2_leastFree_16 : decode cX2_leastFree 16 = .ok (.iinc 2 1, 3) := by decide +kernel
theorem dX2_leastFree_19 : decode cX2_leastFree 19 = .ok (.goto (-17), 3) := by decide +kernel
theorem dX2_leastFree_22 : decode cX2_leastFree 22 = .ok (.aload_n 0, 1) := by decide +kernel
theorem dX2_leastFree_23 : decode cX2_leastFree 23 = .ok (.arraylength, 1) := by decide +kernel
theorem dX2_leastFree_24 : decode cX2_leastFree 24 = .ok (.ireturn, 1) := by decide +kernel
theorem dX2_countTaken_0 : decode cX2_countTaken 0 = .ok (.iconst 0, 1) := by decide +kernel
theorem dX2_countTaken_1 : decode cX2_countTaken 1 = .ok (.istore_n 2, 1) := by decide +kernel
theorem dX2_countTaken_2 : decode cX2_countTaken 2 = .ok (.iload_n 1, 1) := by decide +kernel
theorem dX2_countTaken_3 : decode cX2_countTaken 3 = .ok (.istore_n 3, 1) := by decide +kernel
theorem dX2_countTaken_4 : decode cX2_countTaken 4 = .ok (.iload_n 3, 1) := by decide +kernel
theorem dX2_countTaken_5 : decode cX2_countTaken 5 = .ok (.aload_n 0, 1) := by decide +kernel
theorem dX2_countTaken_6 : decode cX2_countTaken 6 = .ok (.arraylength, 1) := by decide +kernel
theorem dX2_countTaken_7 : decode cX2_countTaken 7 = .ok (.if_icmp .ge 18, 3) := by decide +kernel
theorem dX2_countTaken_10 : decode cX2_countTaken 10 = .ok (.aload_n 0, 1) := by decide +kernel
theorem dX2_countTaken_11 : decode cX2_countTaken 11 = .ok (.iload_n 3, 1) := by decide +kernel
theorem dX2_countTaken_12 : decode cX2_countTaken 12 = .ok (.baload, 1) := by decide +kernel
theorem dX2_countTaken_13 : decode cX2_countTaken 13 = .ok (.ifCond .eq 6, 3) := by decide +kernel
theorem dX2_countTaken_16 : decode cX2_countTaken 16 = .ok (.iinc 2 1, 3) := by decide +kernel
theorem dX2_countTaken_19 : decode cX2_countTaken 19 = .ok (.iinc 3 1, 3) := by decide +kernel
theorem dX2_countTaken_22 : decode cX2_countTaken 22 = .ok (.goto (-18), 3) := by decide +kernel
theorem dX2_countTaken_25 : decode cX2_countTaken 25 = .ok (.iload_n 2, 1) := by decide +kernel
theorem dX2_countTaken_26 : decode cX2_countTaken 26 = .ok (.ireturn, 1) := by decide +kernel
end
section
theorem dX3_init_0 : decode cX3_init 0 = .ok (.aload_n 0, 1) := by decide +kernel
theorem dX3_init_1 : decode cX3_init 1 = .ok (.invokespecial 1, 3) := by decide +kernel
theorem dX3_init_4 : decode cX3_init 4 = .ok (.aload_n 0, 1) := by decide +kernel
theorem dX3_init_5 : decode cX3_init 5 = .ok (.sipush 12600, 3) := by decide +kernel
theorem dX3_init_8 : decode cX3_init 8 = .ok (.newarray .int, 2) := by decide +kernel
theorem dX3_init_10 : decode cX3_init 10 = .ok (.putfield 7, 3) := by decide +kernel
theorem dX3_init_13 : decode cX3_init 13 = .ok (.aload_n 0, 1) := by decide +kernel
theorem dX3_init_14 : decode cX3_init 14 = .ok (.sipush 12600, 3) := by decide +kernel
theorem dX3_init_17 : decode cX3_init 17 = .ok (.newarray .int, 2) := by decide +kernel
theorem dX3_init_19 : decode cX3_init 19 = .ok (.putfield 13, 3) := by decide +kernel
theorem dX3_init_22 : decode cX3_init 22 = .ok (.aload_n 0, 1) := by decide +kernel
theorem dX3_init_23 : decode cX3_init 23 = .ok (.bipush 21, 2) := by decide +kernel
theorem dX3_init_25 : decode cX3_init 25 = .ok (.newarray .int, 2) := by decide +kernel
theorem dX3_init_27 : decode cX3_init 27 = .ok (.putfield 16, 3) := by decide +kernel
theorem dX3_init_30 : decode cX3_init 30 = .ok (.aload_n 0, 1) := by decide +kernel
theorem dX3_init_31 : decode cX3_init 31 = .ok (.bipush 21, 2) := by decide +kernel
theorem dX3_init_33 : decode cX3_init 33 = .ok (.newarray .boolean, 2) := by decide +kernel
theorem dX3_init_35 : decode cX3_init 35 = .ok (.putfield 19, 3) := by decide +kernel
theorem dX3_init_38 : decode cX3_init 38 = .ok (.aload_n 0, 1) := by decide +kernel
theorem dX3_init_39 : decode cX3_init 39 = .ok (.bipush 8, 2) := by decide +kernel
theorem dX3_init_41 : decode cX3_init 41 = .ok (.newarray .int, 2) := by decide +kernel
theorem dX3_init_43 : decode cX3_init 43 = .ok (.putfield 23, 3) := by decide +kernel
theorem dX3_init_46 : decode cX3_init 46 = .ok (.aload_n 0, 1) := by decide +kernel
theorem dX3_init_47 : decode cX3_init 47 = .ok (.bipush 8, 2) := by decide +kernel
theorem dX3_init_49 : decode cX3_init 49 = .ok (.newarray .boolean, 2) := by decide +kernel
theorem dX3_init_51 : decode cX3_init 51 = .ok (.putfield 26, 3) := by decide +kernel
theorem dX3_init_54 : decode cX3_init 54 = .ok (.aload_n 0, 1) := by decide +kernel
theorem dX3_init_55 : decode cX3_init 55 = .ok (.getfield 19, 3) := by decide +kernel
theorem dX3_init_58 : decode cX3_init 58 = .ok (.iconst 0, 1) := by decide +kernel
theorem dX3_init_59 : decode cX3_init 59 = .ok (.iconst 1, 1) := by decide +kernel
theorem dX3_init_60 : decode cX3_init 60 = .ok (.bastore, 1) := by decide +kernel
theorem dX3_init_61 : decode cX3_init 61 = .ok (.return_, 1) := by decide +kernel
theorem dX3_thrown_0 : decode cX3_thrown 0 = .ok (.aload_n 0, 1) := by decide +kernel
theorem dX3_thrown_1 : decode cX3_thrown 1 = .ok (.getfield 29, 3) := by decide +kernel
theorem dX3_thrown_4 : decode cX3_thrown 4 = .ok (.ireturn, 1) := by decide +kernel
theorem dX3_below_0 : decode cX3_below 0 = .ok (.iconst 0, 1) := by decide +kernel
theorem dX3_below_1 : decode cX3_below 1 = .ok (.istore_n 3, 1) := by decide +kernel
theorem dX3_below_2 : decode cX3_below 2 = .ok (.iload_n 3, 1) := by decide +kernel
theorem dX3_below_3 : decode cX3_below 3 = .ok (.aload_n 0, 1) := by decide +kernel
theorem dX3_below_4 : decode cX3_below 4 = .ok (.getfield 16, 3) := by decide +kernel
theorem dX3_below_7 : decode cX3_below 7 = .ok (.iload_n 1, 1) := by decide +kernel
theorem dX3_below_8 : decode cX3_below 8 = .ok (.iaload, 1) := by decide +kernel
theorem dX3_below_9 : decode cX3_below 9 = .ok (.if_icmp .ge 25, 3) := by decide +kernel
theorem dX3_below_12 : decode cX3_below 12 = .ok (.aload_n 0, 1) := by decide +kernel
theorem dX3_below_13 : decode cX3_below 13 = .ok (.getfield 7, 3) := by decide +kernel
theorem dX3_below_16 : decode cX3_below 16 = .ok (.sipush 600, 3) := by decide +kernel
theorem dX3_below_19 : decode cX3_below 19 = .ok (.iload_n 1, 1) := by decide +kernel
theorem dX3_below_20 : decode cX3_below 20 = .ok (.imul, 1) := by decide +kernel
theorem dX3_below_21 : decode cX3_below 21 = .ok (.iload_n 3, 1) := by decide +kernel
theorem dX3_below_22 : decode cX3_below 22 = .ok (.iadd, 1) := by decide +kernel
theorem dX3_below_23 : decode cX3_below 23 = .ok (.iaload, 1) := by decide +kernel
theorem dX3_below_24 : decode cX3_below 24 = .ok (.iload_n 2, 1) := by decide +kernel
theorem dX3_below_25 : decode cX3_below 25 = .ok (.if_icmp .ge 9, 3) := by decide +kernel
theorem dX3_below_28 : decode cX3_below 28 = .ok (.iinc 3 1, 3) := by decide +kernel
theorem dX3_below_31 : decode cX3_below 31 = .ok (.goto (-29), 3) := by decide +kernel
theorem dX3_below_34 : decode cX3_below 34 = .ok (.iload_n 3, 1) := by decide +kernel
theorem dX3_below_35 : decode cX3_below 35 = .ok (.ireturn, 1) := by decide +kernel
set_option maxRecDepth 20000 in
theorem ggX3_has_X3_below : GoodIn wsX3_has wsX3_below := goodIn_r _ [7, 1, 2, 8, 9, 10, 11, 12, 13, 14] (by decide +kernel) (by decide +kernel)
set_option maxRecDepth 20000 in
theorem gX3_has_X3_below : GoodIn wsX3_has (wsV RX3 33 RX3 yX3_below wsX3_below) := goodIn_app (goodIn_of _ (by decide +kernel)) ggX3_has_X3_below
theorem dX3_has_0 : decode cX3_has 0 = .ok (.aload_n 0, 1) := by decide +kernel
theorem dX3_has_1 : decode cX3_has 1 = .ok (.iload_n 1, 1) := by decide +kernel
theorem dX3_has_2 : decode cX3_has 2 = .ok (.iload_n 2, 1) := by decide +kernel
theorem dX3_has_3 : decode cX3_has 3 = .ok (.invokevirtual 33, 3) := by decide +kernel
theorem dX3_has_6 : decode cX3_has 6 = .ok (.istore_n 3, 1) := by decide +kernel
theorem dX3_has_7 : decode cX3_has 7 = .ok (.iload_n 3, 1) := by decide +kernel
theorem dX3_has_8 : decode cX3_has 8 = .ok (.aload_n 0, 1) := by decide +kernel
theorem dX3_has_9 : decode cX3_has 9 = .ok (.getfield 16, 3) := by decide +kernel
theorem dX3_has_12 : decode cX3_has 12 = .ok (.iload_n 1, 1) := by decide +kernel
theorem dX3_has_13 : decode cX3_has 13 = .ok (.iaload, 1) := by decide +kernel
theorem dX3_has_14 : decode cX3_has 14 = .ok (.if_icmp .ge 23, 3) := by decide +kernel
theorem dX3_has_17 : decode cX3_has 17 = .ok (.aload_n 0, 1) := by decide +kernel
theorem dX3_has_18 : decode cX3_has 18 = .ok (.getfield 7, 3) := by decide +kernel
theorem dX3_has_21 : decode cX3_has 21 = .ok (.sipush 600, 3) := by decide +kernel
theorem dX3_has_24 : decode cX3_has 24 = .ok (.iload_n 1, 1) := by decide +kernel
theorem dX3_has_25 : decode cX3_has 25 = .ok (.imul, 1) := by decide +kernel
theorem dX3_has_26 : decode cX3_has 26 = .ok (.iload_n 3, 1) := by decide +kernel
theorem dX3_has_27 : decode cX3_has 27 = .ok (.iadd, 1) := by decide +kernel
theorem dX3_has_28 : decode cX3_has 28 = .ok (.iaload, 1) := by decide +kernel
theorem dX3_has_29 : decode cX3_has 29 = .ok (.iload_n 2, 1) := by decide +kernel
theorem dX3_has_30 : decode cX3_has 30 = .ok (.if_icmp .ne 7, 3) := by decide +kernel
theorem dX3_has_33 : decode cX3_has 33 = .ok (.iconst 1, 1) := by decide +kernel
theorem dX3_has_34 : decode cX3_has 34 = .ok (.goto 4, 3) := by decide +kernel
theorem dX3_has_37 : decode cX3_has 37 = .ok (.iconst 0, 1) := by decide +kernel
theorem dX3_has_38 : decode cX3_has 38 = .ok (.ireturn, 1) := by decide +kernel
set_option maxRecDepth 20000 in
theorem ggX3_upTo_X3_below : GoodIn wsX3_upTo wsX3_below := goodIn_r _ [5, 6, 7, 12, 13, 14, 15, 16, 17, 18] (by decide +kernel) (by decide +kernel)
set_option maxRecDepth 20000 in
theorem gX3_upTo_X3_below : GoodIn wsX3_upTo (wsV RX3 33 RX3 yX3_below wsX3_below) := goodIn_app (goodIn_of _ (by decide +kernel)) ggX3_upTo_X3_below
set_option maxRecDepth 20000 in
theorem ggX3_upTo_X3_has : GoodIn wsX3_upTo wsX3_has := goodIn_r _ [11, 6, 7, 1, 2, 3, 4, 5, 12, 13, 14, 15, 16, 17, 18] (by decide +kernel) (by decide +kernel)
set_option maxRecDepth 20000 in
theorem gX3_upTo_X3_has : GoodIn wsX3_upTo (wsV RX3 37 RX3 yX3_has wsX3_has) := goodIn_app (goodIn_of _ (by decide +kernel)) ggX3_upTo_X3_has
theorem dX3_upTo_0 : decode cX3_upTo 0 = .ok (.aload_n 0, 1) := by decide +kernel
theorem dX3_upTo_1 : decode cX3_upTo 1 = .ok (.iload_n 1, 1) := by decide +kernel
theorem dX3_upTo_2 : decode cX3_upTo 2 = .ok (.iload_n 2, 1) := by decide +kernel
theorem dX3_upTo_3 : decode cX3_upTo 3 = .ok (.invokevirtual 33, 3) := by decide +kernel
theorem dX3_upTo_6 : decode cX3_upTo 6 = .ok (.aload_n 0, 1) := by decide +kernel
theorem dX3_upTo_7 : decode cX3_upTo 7 = .ok (.iload_n 1, 1) := by decide +kernel
theorem dX3_upTo_8 : decode cX3_upTo 8 = .ok (.iload_n 2, 1) := by decide +kernel
theorem dX3_upTo_9 : decode cX3_upTo 9 = .ok (.invokevirtual 37, 3) := by decide +kernel
theorem dX3_upTo_12 : decode cX3_upTo 12 = .ok (.ifCond .eq 7, 3) := by decide +kernel
theorem dX3_upTo_15 : decode cX3_upTo 15 = .ok (.iconst 1, 1) := by decide +kernel
theorem dX3_upTo_16 : decode cX3_upTo 16 = .ok (.goto 4, 3) := by decide +kernel
theorem dX3_upTo_19 : decode cX3_upTo 19 = .ok (.iconst 0, 1) := by decide +kernel
theorem dX3_upTo_20 : decode cX3_upTo 20 = .ok (.iadd, 1) := by decide +kernel
theorem dX3_upTo_21 : decode cX3_upTo 21 = .ok (.ireturn, 1) := by decide +kernel
set_option maxRecDepth 20000 in
theorem ggX3_insert_X3_below : GoodIn wsX3_insert wsX3_below := goodIn_r _ [8, 1, 2, 9, 10, 11, 12, 13, 14, 15] (by decide +kernel) (by decide +kernel)
set_option maxRecDepth 20000 in
theorem gX3_insert_X3_below : GoodIn wsX3_insert (wsV RX3 33 RX3 yX3_below wsX3_below) := goodIn_app (goodIn_of _ (by decide +kernel)) ggX3_insert_X3_below
theorem dX3_insert_0 : decode cX3_insert 0 = .ok (.aload_n 0, 1) := by decide +kernel
theorem dX3_insert_1 : decode cX3_insert 1 = .ok (.iconst 0, 1) := by decide +kernel
theorem dX3_insert_2 : decode cX3_insert 2 = .ok (.iload_n 1, 1) := by decide +kernel
theorem dX3_insert_3 : decode cX3_insert 3 = .ok (.invokevirtual 33, 3) := by decide +kernel
theorem dX3_insert_6 : decode cX3_insert 6 = .ok (.istore_n 3, 1) := by decide +kernel
theorem dX3_insert_7 : decode cX3_insert 7 = .ok (.aload_n 0, 1) := by decide +kernel
theorem dX3_insert_8 : decode cX3_insert 8 = .ok (.getfield 16, 3) := by decide +kernel
theorem dX3_insert_11 : decode cX3_insert 11 = .ok (.iconst 0, 1) := by decide +kernel
theorem dX3_insert_12 : decode cX3_insert 12 = .ok (.iaload, 1) := by decide +kernel
theorem dX3_insert_13 : decode cX3_insert 13 = .ok (.istore 4, 2) := by decide +kernel
theorem dX3_insert_15 : decode cX3_insert 15 = .ok (.iload 4, 2) := by decide +kernel
theorem dX3_insert_17 : decode cX3_insert 17 = .ok (.iload_n 3, 1) := by decide +kernel
theorem dX3_insert_18 : decode cX3_insert 18 = .ok (.if_icmp .le 41, 3) := by decide +kernel
theorem dX3_insert_21 : decode cX3_insert 21 = .ok (.aload_n 0, 1) := by decide +kernel
theorem dX3_insert_22 : decode cX3_insert 22 = .ok (.getfield 7, 3) := by decide +kernel
theorem dX3_insert_25 : decode cX3_insert 25 = .ok (.iload 4, 2) := by decide +kernel
theorem dX3_insert_27 : decode cX3_insert 27 = .ok (.aload_n 0, 1) := by decide +kernel
theorem dX3_insert_28 : decode cX3_insert 28 = .ok (.getfield 7, 3) := by decide +kernel
theorem dX3_insert_31 : decode cX3_insert 31 = .ok (.iload 4, 2) := by decide +kernel
theorem dX3_insert_33 : decode cX3_insert 33 = .ok (.iconst 1, 1) := by decide +kernel
theorem dX3_insert_34 : decode cX3_insert 34 = .ok (.isub, 1) := by decide +kernel
theorem dX3_insert_35 : decode cX3_insert 35 = .ok (.iaload, 1) := by decide +kernel
theorem dX3_insert_36 : decode cX3_insert 36 = .ok (.iastore, 1) := by decide +kernel
theorem dX3_insert_37 : decode cX3_insert 37 = .ok (.aload_n 0, 1) := by decide +kernel
theorem dX3_insert_38 : decode cX3_insert 38 = .ok (.getfield 13, 3) := by decide +kernel
theorem dX3_insert_41 : decode cX3_insert 41 = .ok (.iload 4, 2) := by decide +kernel
theorem dX3_insert_43 : decode cX3_insert 43 = .ok (.aload_n 0, 1) := by decide +kernel
theorem dX3_insert_44 : decode cX3_insert 44 = .ok (.getfield 13, 3) := by decide +kernel
theorem dX3_insert_47 : decode cX3_insert 47 = .ok (.iload 4, 2) := by decide +kernel
theorem dX3_insert_49 : decode cX3_insert 49 = .ok (.iconst 1, 1) := by decide +kernel
theorem dX3_insert_50 : decode cX3_insert 50 = .ok (.isub, 1) := by decide +kernel
theorem dX3_insert_51 : decode cX3_insert 51 = .ok (.iaload, 1) := by decide +kernel
theorem dX3_insert_52 : decode cX3_insert 52 = .ok (.iastore, 1) := by decide +kernel
theorem dX3_insert_53 : decode cX3_insert 53 = .ok (.iinc 4 (-1), 3) := by decide +kernel
theorem dX3_insert_56 : decode cX3_insert 56 = .ok (.goto (-41), 3) := by decide +kernel
theorem dX3_insert_59 : decode cX3_insert 59 = .ok (.aload_n 0, 1) := by decide +kernel
theorem dX3_insert_60 : decode cX3_insert 60 = .ok (.getfield 7, 3) := by decide +kernel
theorem dX3_insert_63 : decode cX3_insert 63 = .ok (.iload_n 3, 1) := by decide +kernel
theorem dX3_insert_64 : decode cX3_insert 64 = .ok (.iload_n 1, 1) := by decide +kernel
theorem dX3_insert_65 : decode cX3_insert 65 = .ok (.iastore, 1) := by decide +kernel
theorem dX3_insert_66 : decode cX3_insert 66 = .ok (.aload_n 0, 1) := by decide +kernel
theorem dX3_insert_67 : decode cX3_insert 67 = .ok (.getfield 13, 3) := by decide +kernel
theorem dX3_insert_70 : decode cX3_insert 70 = .ok (.iload_n 3, 1) := by decide +kernel
theorem dX3_insert_71 : decode cX3_insert 71 = .ok (.iload_n 2, 1) := by decide +kernel
theorem dX3_insert_72 : decode cX3_insert 72 = .ok (.iastore, 1) := by decide +kernel
theorem dX3_insert_73 : decode cX3_insert 73 = .ok (.aload_n 0, 1) := by decide +kernel
theorem dX3_insert_74 : decode cX3_insert 74 = .ok (.getfield 16, 3) := by decide +kernel
theorem dX3_insert_77 : decode cX3_insert 77 = .ok (.iconst 0, 1) := by decide +kernel
theorem dX3_insert_78 : decode cX3_insert 78 = .ok (.dup2, 1) := by decide +kernel
theorem dX3_insert_79 : decode cX3_insert 79 = .ok (.iaload, 1) := by decide +kernel
theorem dX3_insert_80 : decode cX3_insert 80 = .ok (.iconst 1, 1) := by decide +kernel
theorem dX3_insert_81 : decode cX3_insert 81 = .ok (.iadd, 1) := by decide +kernel
theorem dX3_insert_82 : decode cX3_insert 82 = .ok (.iastore, 1) := by decide +kernel
theorem dX3_insert_83 : decode cX3_insert 83 = .ok (.return_, 1) := by decide +kernel
theorem dX3_takeOut_0 : decode cX3_takeOut 0 = .ok (.iload_n 1, 1) := by decide +kernel
theorem dX3_takeOut_1 : decode cX3_takeOut 1 = .ok (.istore_n 3, 1) := by decide +kernel
theorem dX3_takeOut_2 : decode cX3_takeOut 2 = .ok (.iload_n 3, 1) := by decide +kernel
theorem dX3_takeOut_3 : decode cX3_takeOut 3 = .ok (.iload_n 2, 1) := by decide +kernel
theorem dX3_takeOut_4 : decode cX3_takeOut 4 = .ok (.iadd, 1) := by decide +kernel
theorem dX3_takeOut_5 : decode cX3_takeOut 5 = .ok (.aload_n 0, 1) := by decide +kernel
theorem dX3_takeOut_6 : decode cX3_takeOut 6 = .ok (.getfield 16, 3) := by decide +kernel
theorem dX3_takeOut_9 : decode cX3_takeOut 9 = .ok (.iconst 0, 1) := by decide +kernel
theorem dX3_takeOut_10 : decode cX3_takeOut 10 = .ok (.iaload, 1) := by decide +kernel
theorem dX3_takeOut_11 : decode cX3_takeOut 11 = .ok (.if_icmp .ge 37, 3) := by decide +kernel
theorem dX3_takeOut_14 : decode cX3_takeOut 14 = .ok (.aload_n 0, 1) := by decide +kernel
theorem dX3_takeOut_15 : decode cX3_takeOut 15 = .ok (.getfield 7, 3) := by decide +kernel
theorem dX3_takeOut_18 : decode cX3_takeOut 18 = .ok (.iload_n 3, 1) := by decide +kernel
theorem dX3_takeOut_19 : decode cX3_takeOut 19 = .ok (.aload_n 0, 1) := by decide +kernel
theorem dX3_takeOut_20 : decode cX3_takeOut 20 = .ok (.getfield 7, 3) := by decide +kernel
theorem dX3_takeOut_23 : decode cX3_takeOut 23 = .ok (.iload_n 3, 1) := by decide +kernel
theorem dX3_takeOut_24 : decode cX3_takeOut 24 = .ok (.iload_n 2, 1) := by decide +kernel
theorem dX3_takeOut_25 : decode cX3_takeOut 25 = .ok (.iadd, 1) := by decide +kernel
theorem dX3_takeOut_26 : decode cX3_takeOut 26 = .ok (.iaload, 1) := by decide +kernel
theorem dX3_takeOut_27 : decode cX3_takeOut 27 = .ok (.iastore, 1) := by decide +kernel
theorem dX3_takeOut_28 : decode cX3_takeOut 28 = .ok (.aload_n 0, 1) := by decide +kernel
theorem dX3_takeOut_29 : decode cX3_takeOut 29 = .ok (.getfield 13, 3) := by decide +kernel
theorem dX3_takeOut_32 : decode cX3_takeOut 32 = .ok (.iload_n 3, 1) := by decide +kernel
theorem dX3_takeOut_33 : decode cX3_takeOut 33 = .ok (.aload_n 0, 1) := by decide +kernel
theorem dX3_takeOut_34 : decode cX3_takeOut 34 = .ok (.getfield 13, 3) := by decide +kernel
theorem dX3_takeOut_37 : decode cX3_takeOut 37 = .ok (.iload_n 3, 1) := by decide +kernel
theorem dX3_takeOut_38 : decode cX3_takeOut 38 = .ok (.iload_n 2, 1) := by decide +kernel
theorem dX3_takeOut_39 : decode cX3_takeOut 39 = .ok (.iadd, 1) := by decide +kernel
theorem dX3_takeOut_40 : decode cX3_takeOut 40 = .ok (.iaload, 1) := by decide +kernel
theorem dX3_takeOut_41 : decode cX3_takeOut 41 = .ok (.iastore, 1) := by decide +kernel
theorem dX3_takeOut_42 : decode cX3_takeOut 42 = .ok (.iinc 3 1, 3) := by decide +kernel
theorem dX3_takeOut_45 : decode cX3_takeOut 45 = .ok (.goto (-43), 3) := by decide +kernel
theorem dX3_takeOut_48 : decode cX3_takeOut 48 = .ok (.aload_n 0, 1) := by decide +kernel
theorem dX3_takeOut_49 : decode cX3_takeOut 49 = .ok (.getfield 16, 3) := by decide +kernel
theorem dX3_takeOut_52 : decode cX3_takeOut 52 = .ok (.iconst 0, 1) := by decide +kernel
theorem dX3_takeOut_53 : decode cX3_takeOut 53 = .ok (.dup2, 1) := by decide +kernel
theorem dX3_takeOut_54 : decode cX3_takeOut 54 = .ok (.iaload, 1) := by decide +kernel
theorem dX3_takeOut_55 : decode cX3_takeOut 55 = .ok (.iload_n 2, 1) := by decide +kernel
theorem dX3_takeOut_56 : decode cX3_takeOut 56 = .ok (.isub, 1) := by decide +kernel
theorem dX3_takeOut_57 : decode cX3_takeOut 57 = .ok (.iastore, 1) := by decide +kernel
theorem dX3_takeOut_58 : decode cX3_takeOut 58 = .ok (.return_, 1) := by decide +kernel
theorem dX3_copy_0 : decode cX3_copy 0 = .ok (.aload_n 0, 1) := by decide +kernel
theorem dX3_copy_1 : decode cX3_copy 1 = .ok (.getfield 16, 3) := by decide +kernel
theorem dX3_copy_4 : decode cX3_copy 4 = .ok (.iload_n 2, 1) := by decide +kernel
theorem dX3_copy_5 : decode cX3_copy 5 = .ok (.aload_n 0, 1) := by decide +kernel
theorem dX3_copy_6 : decode cX3_copy 6 = .ok (.getfield 16, 3) := by decide +kernel
theorem dX3_copy_9 : decode cX3_copy 9 = .ok (.iload_n 1, 1) := by decide +kernel
theorem dX3_copy_10 : decode cX3_copy 10 = .ok (.iaload, 1) := by decide +kernel
theorem dX3_copy_11 : decode cX3_copy 11 = .ok (.iastore, 1) := by decide +kernel
theorem dX3_copy_12 : decode cX3_copy 12 = .ok (.iconst 0, 1) := by decide +kernel
theorem dX3_copy_13 : decode cX3_copy 13 = .ok (.istore_n 3, 1) := by decide +kernel
theorem dX3_copy_14 : decode cX3_copy 14 = .ok (.iload_n 3, 1) := by decide +kernel
theorem dX3_copy_15 : decode cX3_copy 15 = .ok (.aload_n 0, 1) := by decide +kernel
theorem dX3_copy_16 : decode cX3_copy 16 = .ok (.getfield 16, 3) := by decide +kernel
theorem dX3_copy_19 : decode cX3_copy 19 = .ok (.iload_n 1, 1) := by decide +kernel
theorem dX3_copy_20 : decode cX3_copy 20 = .ok (.iaload, 1) := by decide +kernel
theorem dX3_copy_21 : decode cX3_copy 21 = .ok (.if_icmp .ge 57, 3) := by decide +kernel
theorem dX3_copy_24 : decode cX3_copy 24 = .ok (.aload_n 0, 1) := by decide +kernel
theorem dX3_copy_25 : decode cX3_copy 25 = .ok (.getfield 7, 3) := by decide +kernel
theorem dX3_copy_28 : decode cX3_copy 28 = .ok (.sipush 600, 3) := by decide +kernel
theorem dX3_copy_31 : decode cX3_copy 31 = .ok (.iload_n 2, 1) := by decide +kernel
theorem dX3_copy_32 : decode cX3_copy 32 = .ok (.imul, 1) := by decide +kernel
theorem dX3_copy_33 : decode cX3_copy 33 = .ok (.iload_n 3, 1) := by decide +kernel
theorem dX3_copy_34 : decode cX3_copy 34 = .ok (.iadd, 1) := by decide +kernel
theorem dX3_copy_35 : decode cX3_copy 35 = .ok (.aload_n 0, 1) := by decide +kernel
theorem dX3_copy_36 : decode cX3_copy 36 = .ok (.getfield 7, 3) := by decide +kernel
theorem dX3_copy_39 : decode cX3_copy 39 = .ok (.sipush 600, 3) := by decide +kernel
theorem dX3_copy_42 : decode cX3_copy 42 = .ok (.iload_n 1, 1) := by decide +kernel
theorem dX3_copy_43 : decode cX3_copy 43 = .ok (.imul, 1) := by decide +kernel
theorem dX3_copy_44 : decode cX3_copy 44 = .ok (.iload_n 3, 1) := by decide +kernel
theorem dX3_copy_45 : decode cX3_copy 45 = .ok (.iadd, 1) := by decide +kernel
theorem dX3_copy_46 : decode cX3_copy 46 = .ok (.iaload, 1) := by decide +kernel
theorem dX3_copy_47 : decode cX3_copy 47 = .ok (.iastore, 1) := by decide +kernel
theorem dX3_copy_48 : decode cX3_copy 48 = .ok (.aload_n 0, 1) := by decide +kernel
theorem dX3_copy_49 : decode cX3_copy 49 = .ok (.getfield 13, 3) := by decide +kernel
theorem dX3_copy_52 : decode cX3_copy 52 = .ok (.sipush 600, 3) := by decide +kernel
theorem dX3_copy_55 : decode cX3_copy 55 = .ok (.iload_n 2, 1) := by decide +kernel
theorem dX3_copy_56 : decode cX3_copy 56 = .ok (.imul, 1) := by decide +kernel
theorem dX3_copy_57 : decode cX3_copy 57 = .ok (.iload_n 3, 1) := by decide +kernel
theorem dX3_copy_58 : decode cX3_copy 58 = .ok (.iadd, 1) := by decide +kernel
theorem dX3_copy_59 : decode cX3_copy 59 = .ok (.aload_n 0, 1) := by decide +kernel
theorem dX3_copy_60 : decode cX3_copy 60 = .ok (.getfield 13, 3) := by decide +kernel
theorem dX3_copy_63 : decode cX3_copy 63 = .ok (.sipush 600, 3) := by decide +kernel
theorem dX3_copy_66 : decode cX3_copy 66 = .ok (.iload_n 1, 1) := by decide +kernel
theorem dX3_copy_67 : decode cX3_copy 67 = .ok (.imul, 1) := by decide +kernel
theorem dX3_copy_68 : decode cX3_copy 68 = .ok (.iload_n 3, 1) := by decide +kernel
theorem dX3_copy_69 : decode cX3_copy 69 = .ok (.iadd, 1) := by decide +kernel
theorem dX3_copy_70 : decode cX3_copy 70 = .ok (.iaload, 1) := by decide +kernel
theorem dX3_copy_71 : decode cX3_copy 71 = .ok (.iastore, 1) := by decide +kernel
theorem dX3_copy_72 : decode cX3_copy 72 = .ok (.iinc 3 1, 3) := by decide +kernel
theorem dX3_copy_75 : decode cX3_copy 75 = .ok (.goto (-61), 3) := by decide +kernel
theorem dX3_copy_78 : decode cX3_copy 78 = .ok (.return_, 1) := by decide +kernel
theorem dX3_isVersion_0 : decode cX3_isVersion 0 = .ok (.iload_n 1, 1) := by decide +kernel
theorem dX3_isVersion_1 : decode cX3_isVersion 1 = .ok (.ifCond .lt 22, 3) := by decide +kernel
theorem dX3_isVersion_4 : decode cX3_isVersion 4 = .ok (.iload_n 1, 1) := by decide +kernel
theorem dX3_isVersion_5 : decode cX3_isVersion 5 = .ok (.bipush 12, 2) := by decide +kernel
theorem dX3_isVersion_7 : decode cX3_isVersion 7 = .ok (.if_icmp .gt 16, 3) := by decide +kernel
theorem dX3_isVersion_10 : decode cX3_isVersion 10 = .ok (.aload_n 0, 1) := by decide +kernel
theorem dX3_isVersion_11 : decode cX3_isVersion 11 = .ok (.getfield 19, 3) := by decide +kernel
theorem dX3_isVersion_14 : decode cX3_isVersion 14 = .ok (.iload_n 1, 1) := by decide +kernel
theorem dX3_isVersion_15 : decode cX3_isVersion 15 = .ok (.baload, 1) := by decide +kernel
theorem dX3_isVersion_16 : decode cX3_isVersion 16 = .ok (.ifCond .eq 7, 3) := by decide +kernel
theorem dX3_isVersion_19 : decode cX3_isVersion 19 = .ok (.iconst 1, 1) := by decide +kernel
theorem dX3_isVersion_20 : decode cX3_isVersion 20 = .ok (.goto 4, 3) := by decide +kernel
theorem dX3_isVersion_23 : decode cX3_isVersion 23 = .ok (.iconst 0, 1) := by decide +kernel
theorem dX3_isVersion_24 : decode cX3_isVersion 24 = .ok (.ireturn, 1) := by decide +kernel
set_option maxRecDepth 20000 in
theorem ggX3_isSnapshot_X3_isVersion : GoodIn wsX3_isSnapshot wsX3_isVersion := goodIn_r _ [5, 6, 7, 8, 9, 10, 11, 12, 13] (by decide +kernel) (by decide +kernel)
set_option maxRecDepth 20000 in
theorem gX3_isSnapshot_X3_isVersion : GoodIn wsX3_isSnapshot (wsV RX3 41 RX3 yX3_isVersion wsX3_isVersion) := goodIn_app (goodIn_of _ (by decide +kernel)) ggX3_isSnapshot_X3_isVersion
theorem dX3_isSnapshot_0 : decode cX3_isSnapshot 0 = .ok (.iload_n 1, 1) := by decide +kernel
theorem dX3_isSnapshot_1 : decode cX3_isSnapshot 1 = .ok (.ifCond .le 15, 3) := by decide +kernel
theorem dX3_isSnapshot_4 : decode cX3_isSnapshot 4 = .ok (.aload_n 0, 1) := by decide +kernel
theorem dX3_isSnapshot_5 : decode cX3_isSnapshot 5 = .ok (.iload_n 1, 1) := by decide +kernel
theorem dX3_isSnapshot_6 : decode cX3_isSnapshot 6 = .ok (.invokevirtual 41, 3) := by decide +kernel
theorem dX3_isSnapshot_9 : decode cX3_isSnapshot 9 = .ok (.ifCond .eq 7, 3) := by decide +kernel
theorem dX3_isSnapshot_12 : decode cX3_isSnapshot 12 = .ok (.iconst 1, 1) := by decide +kernel
theorem dX3_isSnapshot_13 : decode cX3_isSnapshot 13 = .ok (.goto 4, 3) := by decide +kernel
theorem dX3_isSnapshot_16 : decode cX3_isSnapshot 16 = .ok (.iconst 0, 1) := by decide +kernel
theorem dX3_isSnapshot_17 : decode cX3_isSnapshot 17 = .ok (.ireturn, 1) := by decide +kernel
theorem dX3_isCursor_0 : decode cX3_isCursor 0 = .ok (.iload_n 1, 1) := by decide +kernel
theorem dX3_isCursor_1 : decode cX3_isCursor 1 = .ok (.ifCond .lt 25, 3) := by decide +kernel
theorem dX3_isCursor_4 : decode cX3_isCursor 4 = .ok (.iload_n 1, 1) := by decide +kernel
theorem dX3_isCursor_5 : decode cX3_isCursor 5 = .ok (.bipush 8, 2) := by decide +kernel
theorem dX3_isCursor_7 : decode cX3_isCursor 7 = .ok (.if_icmp .ge 19, 3) := by decide +kernel
theorem dX3_isCursor_10 : decode cX3_isCursor 10 = .ok (.aload_n 0, 1) := by decide +kernel
theorem dX3_isCursor_11 : decode cX3_isCursor 11 = .ok (.getfield 19, 3) := by decide +kernel
theorem dX3_isCursor_14 : decode cX3_isCursor 14 = .ok (.bipush 13, 2) := by decide +kernel
theorem dX3_isCursor_16 : decode cX3_isCursor 16 = .ok (.iload_n 1, 1) := by decide +kernel
theorem dX3_isCursor_17 : decode cX3_isCursor 17 = .ok (.iadd, 1) := by decide +kernel
theorem dX3_isCursor_18 : decode cX3_isCursor 18 = .ok (.baload, 1) := by decide +kernel
theorem dX3_isCursor_19 : decode cX3_isCursor 19 = .ok (.ifCond .eq 7, 3) := by decide +kernel
theorem dX3_isCursor_22 : decode cX3_isCursor 22 = .ok (.iconst 1, 1) := by decide +kernel
theorem dX3_isCursor_23 : decode cX3_isCursor 23 = .ok (.goto 4, 3) := by decide +kernel
theorem dX3_isCursor_26 : decode cX3_isCursor 26 = .ok (.iconst 0, 1) := by decide +kernel
theorem dX3_isCursor_27 : decode cX3_isCursor 27 = .ok (.ireturn, 1) := by decide +kernel
theorem dX3_spare_0 : decode cX3_spare 0 = .ok (.iconst (-1), 1) := by decide +kernel
theorem dX3_spare_1 : decode cX3_spare 1 = .ok (.istore_n 3, 1) := by decide +kernel
theorem dX3_spare_2 : decode cX3_spare 2 = .ok (.iload_n 2, 1) := by decide +kernel
theorem dX3_spare_3 : decode cX3_spare 3 = .ok (.istore 4, 2) := by decide +kernel
theorem dX3_spare_5 : decode cX3_spare 5 = .ok (.iload 4, 2) := by decide +kernel
theorem dX3_spare_7 : decode cX3_spare 7 = .ok (.iload_n 1, 1) := by decide +kernel
theorem dX3_spare_8 : decode cX3_spare 8 = .ok (.if_icmp .lt 26, 3) := by decide +kernel
theorem dX3_spare_11 : decode cX3_spare 11 = .ok (.aload_n 0, 1) := by decide +kernel
theorem dX3_spare_12 : decode cX3_spare 12 = .ok (.getfield 19, 3) := by decide +kernel
theorem dX3_spare_15 : decode cX3_spare 15 = .ok (.iload 4, 2) := by decide +kernel
theorem dX3_spare_17 : decode cX3_spare 17 = .ok (.baload, 1) := by decide +kernel
theorem dX3_spare_18 : decode cX3_spare 18 = .ok (.ifCond .eq 7, 3) := by decide +kernel
theorem dX3_spare_21 : decode cX3_spare 21 = .ok (.iload_n 3, 1) := by decide +kernel
theorem dX3_spare_22 : decode cX3_spare 22 = .ok (.goto 5, 3) := by decide +kernel
theorem dX3_spare_25 : decode cX3_spare 25 = .ok (.iload 4, 2) := by decide +kernel
theorem dX3_spare_27 : decode cX3_spare 27 = .ok (.istore_n 3, 1) := by decide +kernel
theorem dX3_spare_28 : decode cX3_spare 28 = .ok (.iinc 4 (-1), 3) := by decide +kernel
theorem dX3_spare_31 : decode cX3_spare 31 = .ok (.goto (-26), 3) := by decide +kernel
theorem dX3_spare_34 : decode cX3_spare 34 = .ok (.iload_n 3, 1) := by decide +kernel
theorem dX3_spare_35 : decode cX3_spare 35 = .ok (.ireturn, 1) := by decide +kernel
set_option maxRecDepth 20000 in
theorem ggX3_put_X3_has : GoodIn wsX3_put wsX3_has := goodIn_r _ [8, 1, 9, 10, 11, 12, 7, 13, 18, 19, 20, 21, 22, 23, 24] (by decide +kernel) (by decide +kernel)
set_option maxRecDepth 20000 in
theorem gX3_put_X3_has : GoodIn wsX3_put (wsV RX3 37 RX3 yX3_has wsX3_has) := goodIn_app (goodIn_of _ (by decide +kernel)) ggX3_put_X3_has
set_option maxRecDepth 20000 in
theorem ggX3_put_X3_insert : GoodIn wsX3_put wsX3_insert := goodIn_r _ [17, 1, 9, 3, 10, 11, 12, 7, 13, 18, 19, 20, 21, 22, 23, 24] (by decide +kernel) (by decide +kernel)
set_option maxRecDepth 20000 in
theorem gX3_put_X3_insert : GoodIn wsX3_put (wsV RX3 45 RX3 yX3_insert wsX3_insert) := goodIn_app (goodIn_of _ (by decide +kernel)) ggX3_put_X3_insert
set_option maxRecDepth 20000 in
theorem ggX3_put_X3_below : GoodIn wsX3_put wsX3_below := goodIn_r _ [13, 1, 9, 18, 19, 20, 21, 22, 23, 24] (by decide +kernel) (by decide +kernel)
set_option maxRecDepth 20000 in
theorem gX3_put_X3_below : GoodIn wsX3_put (wsV RX3 33 RX3 yX3_below wsX3_below) := goodIn_app (goodIn_of _ (by decide +kernel)) ggX3_put_X3_below
theorem dX3_put_0 : decode cX3_put 0 = .ok (.aload_n 0, 1) := by decide +kernel
theorem dX3_put_1 : decode cX3_put 1 = .ok (.iconst 0, 1) := by decide +kernel
theorem dX3_put_2 : decode cX3_put 2 = .ok (.iload_n 1, 1) := by decide +kernel
theorem dX3_put_3 : decode cX3_put 3 = .ok (.invokevirtual 37, 3) := by decide +kernel
theorem dX3_put_6 : decode cX3_put 6 = .ok (.ifCond .ne 7, 3) := by decide +kernel
theorem dX3_put_9 : decode cX3_put 9 = .ok (.iconst 1, 1) := by decide +kernel
theorem dX3_put_10 : decode cX3_put 10 = .ok (.goto 4, 3) := by decide +kernel
theorem dX3_put_13 : decode cX3_put 13 = .ok (.iconst 0, 1) := by decide +kernel
theorem dX3_put_14 : decode cX3_put 14 = .ok (.istore_n 3, 1) := by decide +kernel
theorem dX3_put_15 : decode cX3_put 15 = .ok (.aload_n 0, 1) := by decide +kernel
theorem dX3_put_16 : decode cX3_put 16 = .ok (.iload_n 3, 1) := by decide +kernel
theorem dX3_put_17 : decode cX3_put 17 = .ok (.ifCond .eq 19, 3) := by decide +kernel
theorem dX3_put_20 : decode cX3_put 20 = .ok (.aload_n 0, 1) := by decide +kernel
theorem dX3_put_21 : decode cX3_put 21 = .ok (.getfield 16, 3) := by decide +kernel
theorem dX3_put_24 : decode cX3_put 24 = .ok (.iconst 0, 1) := by decide +kernel
theorem dX3_put_25 : decode cX3_put 25 = .ok (.iaload, 1) := by decide +kernel
theorem dX3_put_26 : decode cX3_put 26 = .ok (.sipush 600, 3) := by decide +kernel
theorem dX3_put_29 : decode cX3_put 29 = .ok (.if_icmp .ne 7, 3) := by decide +kernel
theorem dX3_put_32 : decode cX3_put 32 = .ok (.iconst 1, 1) := by decide +kernel
theorem dX3_put_33 : decode cX3_put 33 = .ok (.goto 4, 3) := by decide +kernel
theorem dX3_put_36 : decode cX3_put 36 = .ok (.iconst 0, 1) := by decide +kernel
theorem dX3_put_37 : decode cX3_put 37 = .ok (.putfield 29, 3) := by decide +kernel
theorem dX3_put_40 : decode cX3_put 40 = .ok (.aload_n 0, 1) := by decide +kernel
theorem dX3_put_41 : decode cX3_put 41 = .ok (.getfield 29, 3) := by decide +kernel
theorem dX3_put_44 : decode cX3_put 44 = .ok (.ifCond .le 5, 3) := by decide +kernel
theorem dX3_put_47 : decode cX3_put 47 = .ok (.iconst 0, 1) := by decide +kernel
theorem dX3_put_48 : decode cX3_put 48 = .ok (.ireturn, 1) := by decide +kernel
theorem dX3_put_49 : decode cX3_put 49 = .ok (.iload_n 3, 1) := by decide +kernel
theorem dX3_put_50 : decode cX3_put 50 = .ok (.ifCond .eq 12, 3) := by decide +kernel
theorem dX3_put_53 : decode cX3_put 53 = .ok (.aload_n 0, 1) := by decide +kernel
theorem dX3_put_54 : decode cX3_put 54 = .ok (.iload_n 1, 1) := by decide +kernel
theorem dX3_put_55 : decode cX3_put 55 = .ok (.iload_n 2, 1) := by decide +kernel
theorem dX3_put_56 : decode cX3_put 56 = .ok (.invokevirtual 45, 3) := by decide +kernel
theorem dX3_put_59 : decode cX3_put 59 = .ok (.goto 15, 3) := by decide +kernel
theorem dX3_put_62 : decode cX3_put 62 = .ok (.aload_n 0, 1) := by decide +kernel
theorem dX3_put_63 : decode cX3_put 63 = .ok (.getfield 13, 3) := by decide +kernel
theorem dX3_put_66 : decode cX3_put 66 = .ok (.aload_n 0, 1) := by decide +kernel
theorem dX3_put_67 : decode cX3_put 67 = .ok (.iconst 0, 1) := by decide +kernel
theorem dX3_put_68 : decode cX3_put 68 = .ok (.iload_n 1, 1) := by decide +kernel
theorem dX3_put_69 : decode cX3_put 69 = .ok (.invokevirtual 33, 3) := by decide +kernel
theorem dX3_put_72 : decode cX3_put 72 = .ok (.iload_n 2, 1) := by decide +kernel
theorem dX3_put_73 : decode cX3_put 73 = .ok (.iastore, 1) := by decide +kernel
theorem dX3_put_74 : decode cX3_put 74 = .ok (.iload_n 3, 1) := by decide +kernel
theorem dX3_put_75 : decode cX3_put 75 = .ok (.ireturn, 1) := by decide +kernel
set_option maxRecDepth 20000 in
theorem ggX3_remove_X3_has : GoodIn wsX3_remove wsX3_has := goodIn_r _ [7, 8, 9, 10, 11, 12, 6, 13, 18, 19, 20, 21, 22, 23, 24] (by decide +kernel) (by decide +kernel)
set_option maxRecDepth 20000 in
theorem gX3_remove_X3_has : GoodIn wsX3_remove (wsV RX3 37 RX3 yX3_has wsX3_has) := goodIn_app (goodIn_of _ (by decide +kernel)) ggX3_remove_X3_has
set_option maxRecDepth 20000 in
theorem ggX3_remove_X3_below : GoodIn wsX3_remove wsX3_below := goodIn_r _ [13, 8, 9, 18, 19, 20, 21, 22, 23, 24] (by decide +kernel) (by decide +kernel)
set_option maxRecDepth 20000 in
theorem gX3_remove_X3_below : GoodIn wsX3_remove (wsV RX3 33 RX3 yX3_below wsX3_below) := goodIn_app (goodIn_of _ (by decide +kernel)) ggX3_remove_X3_below
set_option maxRecDepth 20000 in
theorem ggX3_remove_X3_takeOut : GoodIn wsX3_remove wsX3_takeOut := goodIn_r _ [17, 8, 9, 2, 18, 19, 20, 21, 22, 23, 24] (by decide +kernel) (by decide +kernel)
set_option maxRecDepth 20000 in
theorem gX3_remove_X3_takeOut : GoodIn wsX3_remove (wsV RX3 49 RX3 yX3_takeOut wsX3_takeOut) := goodIn_app (goodIn_of _ (by decide +kernel)) ggX3_remove_X3_takeOut
theorem dX3_remove_0 : decode cX3_remove 0 = .ok (.aload_n 0, 1) := by decide +kernel
theorem dX3_remove_1 : decode cX3_remove 1 = .ok (.aload_n 0, 1) := by decide +kernel
theorem dX3_remove_2 : decode cX3_remove 2 = .ok (.iconst 0, 1) := by decide +kernel
theorem dX3_remove_3 : decode cX3_remove 3 = .ok (.iload_n 1, 1) := by decide +kernel
theorem dX3_remove_4 : decode cX3_remove 4 = .ok (.invokevirtual 37, 3) := by decide +kernel
theorem dX3_remove_7 : decode cX3_remove 7 = .ok (.ifCond .eq 7, 3) := by decide +kernel
theorem dX3_remove_10 : decode cX3_remove 10 = .ok (.iconst 0, 1) := by decide +kernel
theorem dX3_remove_11 : decode cX3_remove 11 = .ok (.goto 4, 3) := by decide +kernel
theorem dX3_remove_14 : decode cX3_remove 14 = .ok (.iconst 1, 1) := by decide +kernel
theorem dX3_remove_15 : decode cX3_remove 15 = .ok (.putfield 29, 3) := by decide +kernel
theorem dX3_remove_18 : decode cX3_remove 18 = .ok (.aload_n 0, 1) := by decide +kernel
theorem dX3_remove_19 : decode cX3_remove 19 = .ok (.getfield 29, 3) := by decide +kernel
theorem dX3_remove_22 : decode cX3_remove 22 = .ok (.ifCond .le 5, 3) := by decide +kernel
theorem dX3_remove_25 : decode cX3_remove 25 = .ok (.iconst 0, 1) := by decide +kernel
theorem dX3_remove_26 : decode cX3_remove 26 = .ok (.ireturn, 1) := by decide +kernel
theorem dX3_remove_27 : decode cX3_remove 27 = .ok (.aload_n 0, 1) := by decide +kernel
theorem dX3_remove_28 : decode cX3_remove 28 = .ok (.iconst 0, 1) := by decide +kernel
theorem dX3_remove_29 : decode cX3_remove 29 = .ok (.iload_n 1, 1) := by decide +kernel
theorem dX3_remove_30 : decode cX3_remove 30 = .ok (.invokevirtual 33, 3) := by decide +kernel
theorem dX3_remove_33 : decode cX3_remove 33 = .ok (.istore_n 2, 1) := by decide +kernel
theorem dX3_remove_34 : decode cX3_remove 34 = .ok (.aload_n 0, 1) := by decide +kernel
theorem dX3_remove_35 : decode cX3_remove 35 = .ok (.getfield 13, 3) := by decide +kernel
theorem dX3_remove_38 : decode cX3_remove 38 = .ok (.iload_n 2, 1) := by decide +kernel
theorem dX3_remove_39 : decode cX3_remove 39 = .ok (.iaload, 1) := by decide +kernel
theorem dX3_remove_40 : decode cX3_remove 40 = .ok (.istore_n 3, 1) := by decide +kernel
theorem dX3_remove_41 : decode cX3_remove 41 = .ok (.aload_n 0, 1) := by decide +kernel
theorem dX3_remove_42 : decode cX3_remove 42 = .ok (.iload_n 2, 1) := by decide +kernel
theorem dX3_remove_43 : decode cX3_remove 43 = .ok (.iconst 1, 1) := by decide +kernel
theorem dX3_remove_44 : decode cX3_remove 44 = .ok (.invokevirtual 49, 3) := by decide +kernel
theorem dX3_remove_47 : decode cX3_remove 47 = .ok (.iload_n 3, 1) := by decide +kernel
theorem dX3_remove_48 : decode cX3_remove 48 = .ok (.ireturn, 1) := by decide +kernel
theorem dX3_load_0 : decode cX3_load 0 = .ok (.iload_n 3, 1) := by decide +kernel
theorem dX3_load_1 : decode cX3_load 1 = .ok (.ifCond .lt 19, 3) := by decide +kernel
theorem dX3_load_4 : decode cX3_load 4 = .ok (.iload_n 3, 1) := by decide +kernel
theorem dX3_load_5 : decode cX3_load 5 = .ok (.sipush 600, 3) := by decide +kernel
theorem dX3_load_8 : decode cX3_load 8 = .ok (.if_icmp .gt 12, 3) := by decide +kernel
theorem dX3_load_11 : decode cX3_load 11 = .ok (.iload_n 2, 1) := by decide +kernel
theorem dX3_load_12 : decode cX3_load 12 = .ok (.iconst 1, 1) := by decide +kernel
theorem dX3_load_13 : decode cX3_load 13 = .ok (.if_icmp .lt 7, 3) := by decide +kernel
theorem dX3_load_16 : decode cX3_load 16 = .ok (.iconst 1, 1) := by decide +kernel
theorem dX3_load_17 : decode cX3_load 17 = .ok (.goto 4, 3) := by decide +kernel
theorem dX3_load_20 : decode cX3_load 20 = .ok (.iconst 0, 1) := by decide +kernel
theorem dX3_load_21 : decode cX3_load 21 = .ok (.istore 6, 2) := by decide +kernel
theorem dX3_load_23 : decode cX3_load 23 = .ok (.iload 6, 2) := by decide +kernel
theorem dX3_load_25 : decode cX3_load 25 = .ok (.ifCond .eq 28, 3) := by decide +kernel
theorem dX3_load_28 : decode cX3_load 28 = .ok (.iload_n 3, 1) := by decide +kernel
theorem dX3_load_29 : decode cX3_load 29 = .ok (.ifCond .eq 20, 3) := by decide +kernel
theorem dX3_load_32 : decode cX3_load 32 = .ok (.iload_n 1, 1) := by decide +kernel
theorem dX3_load_33 : decode cX3_load 33 = .ok (.i2l, 1) := by decide +kernel
theorem dX3_load_34 : decode cX3_load 34 = .ok (.iload_n 3, 1) := by decide +kernel
theorem dX3_load_35 : decode cX3_load 35 = .ok (.i2l, 1) := by decide +kernel
theorem dX3_load_36 : decode cX3_load 36 = .ok (.lconst 1, 1) := by decide +kernel
theorem dX3_load_37 : decode cX3_load 37 = .ok (.lsub, 1) := by decide +kernel
theorem dX3_load_38 : decode cX3_load 38 = .ok (.iload_n 2, 1) := by decide +kernel
theorem dX3_load_39 : decode cX3_load 39 = .ok (.i2l, 1) := by decide +kernel
theorem dX3_load_40 : decode cX3_load 40 = .ok (.lmul, 1) := by decide +kernel
theorem dX3_load_41 : decode cX3_load 41 = .ok (.ladd, 1) := by decide +kernel
theorem dX3_load_42 : decode cX3_load 42 = .ok (.ldc2_w 52, 3) := by decide +kernel
theorem dX3_load_45 : decode cX3_load 45 = .ok (.lcmp, 1) := by decide +kernel
theorem dX3_load_46 : decode cX3_load 46 = .ok (.ifCond .gt 7, 3) := by decide +kernel
theorem dX3_load_49 : decode cX3_load 49 = .ok (.iconst 1, 1) := by decide +kernel
theorem dX3_load_50 : decode cX3_load 50 = .ok (.goto 4, 3) := by decide +kernel
theorem dX3_load_53 : decode cX3_load 53 = .ok (.iconst 0, 1) := by decide +kernel
theorem dX3_load_54 : decode cX3_load 54 = .ok (.istore 6, 2) := by decide +kernel
theorem dX3_load_56 : decode cX3_load 56 = .ok (.aload_n 0, 1) := by decide +kernel
theorem dX3_load_57 : decode cX3_load 57 = .ok (.iload 6, 2) := by decide +kernel
theorem dX3_load_59 : decode cX3_load 59 = .ok (.ifCond .eq 7, 3) := by decide +kernel
theorem dX3_load_62 : decode cX3_load 62 = .ok (.iconst 0, 1) := by decide +kernel
theorem dX3_load_63 : decode cX3_load 63 = .ok (.goto 4, 3) := by decide +kernel
theorem dX3_load_66 : decode cX3_load 66 = .ok (.iconst 1, 1) := by decide +kernel
theorem dX3_load_67 : decode cX3_load 67 = .ok (.putfield 29, 3) := by decide +kernel
theorem dX3_load_70 : decode cX3_load 70 = .ok (.aload_n 0, 1) := by decide +kernel
theorem dX3_load_71 : decode cX3_load 71 = .ok (.getfield 29, 3) := by decide +kernel
theorem dX3_load_74 : decode cX3_load 74 = .ok (.ifCond .le 5, 3) := by decide +kernel
theorem dX3_load_77 : decode cX3_load 77 = .ok (.iconst 0, 1) := by decide +kernel
theorem dX3_load_78 : decode cX3_load 78 = .ok (.ireturn, 1) := by decide +kernel
theorem dX3_load_79 : decode cX3_load 79 = .ok (.aload_n 0, 1) := by decide +kernel
theorem dX3_load_80 : decode cX3_load 80 = .ok (.getfield 16, 3) := by decide +kernel
theorem dX3_load_83 : decode cX3_load 83 = .ok (.iconst 0, 1) := by decide +kernel
theorem dX3_load_84 : decode cX3_load 84 = .ok (.iaload, 1) := by decide +kernel
theorem dX3_load_85 : decode cX3_load 85 = .ok (.istore 7, 2) := by decide +kernel
theorem dX3_load_87 : decode cX3_load 87 = .ok (.iconst 0, 1) := by decide +kernel
theorem dX3_load_88 : decode cX3_load 88 = .ok (.istore 8, 2) := by decide +kernel
theorem dX3_load_90 : decode cX3_load 90 = .ok (.iload 8, 2) := by decide +kernel
theorem dX3_load_92 : decode cX3_load 92 = .ok (.iload_n 3, 1) := by decide +kernel
theorem dX3_load_93 : decode cX3_load 93 = .ok (.if_icmp .ge 42, 3) := by decide +kernel
theorem dX3_load_96 : decode cX3_load 96 = .ok (.aload_n 0, 1) := by decide +kernel
theorem dX3_load_97 : decode cX3_load 97 = .ok (.getfield 7, 3) := by decide +kernel
theorem dX3_load_100 : decode cX3_load 100 = .ok (.iload 8, 2) := by decide +kernel
theorem dX3_load_102 : decode cX3_load 102 = .ok (.iload_n 1, 1) := by decide +kernel
theorem dX3_load_103 : decode cX3_load 103 = .ok (.iload 8, 2) := by decide +kernel
theorem dX3_load_105 : decode cX3_load 105 = .ok (.iload_n 2, 1) := by decide +kernel
theorem dX3_load_106 : decode cX3_load 106 = .ok (.imul, 1) := by decide +kernel
theorem dX3_load_107 : decode cX3_load 107 = .ok (.iadd, 1) := by decide +kernel
theorem dX3_load_108 : decode cX3_load 108 = .ok (.iastore, 1) := by decide +kernel
theorem dX3_load_109 : decode cX3_load 109 = .ok (.aload_n 0, 1) := by decide +kernel
theorem dX3_load_110 : decode cX3_load 110 = .ok (.getfield 13, 3) := by decide +kernel
theorem dX3_load_113 : decode cX3_load 113 = .ok (.iload 8, 2) := by decide +kernel
theorem dX3_load_115 : decode cX3_load 115 = .ok (.iload 4, 2) := by decide +kernel
theorem dX3_load_117 : decode cX3_load 117 = .ok (.aload_n 0, 1) := by decide +kernel
theorem dX3_load_118 : decode cX3_load 118 = .ok (.getfield 7, 3) := by decide +kernel
theorem dX3_load_121 : decode cX3_load 121 = .ok (.iload 8, 2) := by decide +kernel
theorem dX3_load_123 : decode cX3_load 123 = .ok (.iaload, 1) := by decide +kernel
theorem dX3_load_124 : decode cX3_load 124 = .ok (.imul, 1) := by decide +kernel
theorem dX3_load_125 : decode cX3_load 125 = .ok (.iload 5, 2) := by decide +kernel
theorem dX3_load_127 : decode cX3_load 127 = .ok (.iadd, 1) := by decide +kernel
theorem dX3_load_128 : decode cX3_load 128 = .ok (.iastore, 1) := by decide +kernel
theorem dX3_load_129 : decode cX3_load 129 = .ok (.iinc 8 1, 3) := by decide +kernel
theorem dX3_load_132 : decode cX3_load 132 = .ok (.goto (-42), 3) := by decide +kernel
theorem dX3_load_135 : decode cX3_load 135 = .ok (.aload_n 0, 1) := by decide +kernel
theorem dX3_load_136 : decode cX3_load 136 = .ok (.getfield 16, 3) := by decide +kernel
theorem dX3_load_139 : decode cX3_load 139 = .ok (.iconst 0, 1) := by decide +kernel
theorem dX3_load_140 : decode cX3_load 140 = .ok (.iload_n 3, 1) := by decide +kernel
theorem dX3_load_141 : decode cX3_load 141 = .ok (.iastore, 1) := by decide +kernel
theorem dX3_load_142 : decode cX3_load 142 = .ok (.iload 7, 2) := by decide +kernel
theorem dX3_load_144 : decode cX3_load 144 = .ok (.ireturn, 1) := by decide +kernel
set_option maxRecDepth 20000 in
theorem ggX3_many_X3_upTo : GoodIn wsX3_many wsX3_upTo := goodIn_r _ [5, 6, 7, 8, 4, 9, 10, 11, 12, 13, 14, 15, 16, 17, 18, 19, 20, 21, 22] (by decide +kernel) (by decide +kernel)
set_option maxRecDepth 20000 in
theorem gX3_many_X3_upTo : GoodIn wsX3_many (wsV RX3 54 RX3 yX3_upTo wsX3_upTo) := goodIn_app (goodIn_of _ (by decide +kernel)) ggX3_many_X3_upTo
set_option maxRecDepth 20000 in
theorem ggX3_many_X3_below : GoodIn wsX3_many wsX3_below := goodIn_r _ [9, 10, 11, 16, 17, 18, 19, 20, 21, 22] (by decide +kernel) (by decide +kernel)
set_option maxRecDepth 20000 in
theorem gX3_many_X3_below : GoodIn wsX3_many (wsV RX3 33 RX3 yX3_below wsX3_below) := goodIn_app (goodIn_of _ (by decide +kernel)) ggX3_many_X3_below
theorem dX3_many_0 : decode cX3_many 0 = .ok (.iload_n 2, 1) := by decide +kernel
theorem dX3_many_1 : decode cX3_many 1 = .ok (.iload_n 3, 1) := by decide +kernel
theorem dX3_many_2 : decode cX3_many 2 = .ok (.if_icmp .le 7, 3) := by decide +kernel
theorem dX3_many_5 : decode cX3_many 5 = .ok (.iconst 0, 1) := by decide +kernel
theorem dX3_many_6 : decode cX3_many 6 = .ok (.goto 16, 3) := by decide +kernel
theorem dX3_many_9 : decode cX3_many 9 = .ok (.aload_n 0, 1) := by decide +kernel
theorem dX3_many_10 : decode cX3_many 10 = .ok (.iload_n 1, 1) := by decide +kernel
theorem dX3_many_11 : decode cX3_many 11 = .ok (.iload_n 3, 1) := by decide +kernel
theorem dX3_many_12 : decode cX3_many 12 = .ok (.invokevirtual 54, 3) := by decide +kernel
theorem dX3_many_15 : decode cX3_many 15 = .ok (.aload_n 0, 1) := by decide +kernel
theorem dX3_many_16 : decode cX3_many 16 = .ok (.iload_n 1, 1) := by decide +kernel
theorem dX3_many_17 : decode cX3_many 17 = .ok (.iload_n 2, 1) := by decide +kernel
theorem dX3_many_18 : decode cX3_many 18 = .ok (.invokevirtual 33, 3) := by decide +kernel
theorem dX3_many_21 : decode cX3_many 21 = .ok (.isub, 1) := by decide +kernel
theorem dX3_many_22 : decode cX3_many 22 = .ok (.ireturn, 1) := by decide +kernel
set_option maxRecDepth 20000 in
theorem ggX3_cut_X3_many : GoodIn wsX3_cut wsX3_many := goodIn_r _ [6, 7, 8, 9, 5, 10, 11, 12, 13, 14, 15, 16, 17, 18, 19, 20, 26, 27, 28, 29, 30, 31, 32] (by decide +kernel) (by decide +kernel)
set_option maxRecDepth 20000 in
theorem gX3_cut_X3_many : GoodIn wsX3_cut (wsV RX3 57 RX3 yX3_many wsX3_many) := goodIn_app (goodIn_of _ (by decide +kernel)) ggX3_cut_X3_many
set_option maxRecDepth 20000 in
theorem ggX3_cut_X3_below : GoodIn wsX3_cut wsX3_below := goodIn_r _ [14, 15, 16, 26, 27, 28, 29, 30, 31, 32] (by decide +kernel) (by decide +kernel)
set_option maxRecDepth 20000 in
theorem gX3_cut_X3_below : GoodIn wsX3_cut (wsV RX3 33 RX3 yX3_below wsX3_below) := goodIn_app (goodIn_of _ (by decide +kernel)) ggX3_cut_X3_below
set_option maxRecDepth 20000 in
theorem ggX3_cut_X3_takeOut : GoodIn wsX3_cut wsX3_takeOut := goodIn_r _ [24, 15, 16, 25, 26, 27, 28, 29, 30, 31, 32] (by decide +kernel) (by decide +kernel)
set_option maxRecDepth 20000 in
theorem gX3_cut_X3_takeOut : GoodIn wsX3_cut (wsV RX3 49 RX3 yX3_takeOut wsX3_takeOut) := goodIn_app (goodIn_of _ (by decide +kernel)) ggX3_cut_X3_takeOut
theorem dX3_cut_0 : decode cX3_cut 0 = .ok (.aload_n 0, 1) := by decide +kernel
theorem dX3_cut_1 : decode cX3_cut 1 = .ok (.iconst 0, 1) := by decide +kernel
theorem dX3_cut_2 : decode cX3_cut 2 = .ok (.putfield 29, 3) := by decide +kernel
theorem dX3_cut_5 : decode cX3_cut 5 = .ok (.aload_n 0, 1) := by decide +kernel
theorem dX3_cut_6 : decode cX3_cut 6 = .ok (.iconst 0, 1) := by decide +kernel
theorem dX3_cut_7 : decode cX3_cut 7 = .ok (.iload_n 1, 1) := by decide +kernel
theorem dX3_cut_8 : decode cX3_cut 8 = .ok (.iload_n 2, 1) := by decide +kernel
theorem dX3_cut_9 : decode cX3_cut 9 = .ok (.invokevirtual 57, 3) := by decide +kernel
theorem dX3_cut_12 : decode cX3_cut 12 = .ok (.istore_n 3, 1) := by decide +kernel
theorem dX3_cut_13 : decode cX3_cut 13 = .ok (.aload_n 0, 1) := by decide +kernel
theorem dX3_cut_14 : decode cX3_cut 14 = .ok (.aload_n 0, 1) := by decide +kernel
theorem dX3_cut_15 : decode cX3_cut 15 = .ok (.iconst 0, 1) := by decide +kernel
theorem dX3_cut_16 : decode cX3_cut 16 = .ok (.iload_n 1, 1) := by decide +kernel
theorem dX3_cut_17 : decode cX3_cut 17 = .ok (.invokevirtual 33, 3) := by decide +kernel
theorem dX3_cut_20 : decode cX3_cut 20 = .ok (.iload_n 3, 1) := by decide +kernel
theorem dX3_cut_21 : decode cX3_cut 21 = .ok (.invokevirtual 49, 3) := by decide +kernel
theorem dX3_cut_24 : decode cX3_cut 24 = .ok (.iload_n 3, 1) := by decide +kernel
theorem dX3_cut_25 : decode cX3_cut 25 = .ok (.ireturn, 1) := by decide +kernel
set_option maxRecDepth 20000 in
theorem ggX3_merge_X3_isVersion : GoodIn wsX3_merge wsX3_isVersion := goodIn_r _ [9, 10, 23, 24, 25, 26, 27, 28, 29] (by decide +kernel) (by decide +kernel)
set_option maxRecDepth 20000 in
theorem gX3_merge_X3_isVersion : GoodIn wsX3_merge (wsV RX3 41 RX3 yX3_isVersion wsX3_isVersion) := goodIn_app (goodIn_of _ (by decide +kernel)) ggX3_merge_X3_isVersion
set_option maxRecDepth 20000 in
theorem ggX3_merge_X3_has : GoodIn wsX3_merge wsX3_has := goodIn_r _ [14, 2, 3, 15, 16, 17, 8, 18, 23, 24, 25, 26, 27, 28, 29] (by decide +kernel) (by decide +kernel)
set_option maxRecDepth 20000 in
theorem gX3_merge_X3_has : GoodIn wsX3_merge (wsV RX3 37 RX3 yX3_has wsX3_has) := goodIn_app (goodIn_of _ (by decide +kernel)) ggX3_merge_X3_has
set_option maxRecDepth 20000 in
theorem ggX3_merge_X3_insert : GoodIn wsX3_merge wsX3_insert := goodIn_r _ [22, 2, 3, 4, 15, 16, 17, 8, 18, 23, 24, 25, 26, 27, 28, 29] (by decide +kernel) (by decide +kernel)
set_option maxRecDepth 20000 in
theorem gX3_merge_X3_insert : GoodIn wsX3_merge (wsV RX3 45 RX3 yX3_insert wsX3_insert) := goodIn_app (goodIn_of _ (by decide +kernel)) ggX3_merge_X3_insert
theorem dX3_merge_0 : decode cX3_merge 0 = .ok (.aload_n 0, 1) := by decide +kernel
theorem dX3_merge_1 : decode cX3_merge 1 = .ok (.aload_n 0, 1) := by decide +kernel
theorem dX3_merge_2 : decode cX3_merge 2 = .ok (.iload_n 1, 1) := by decide +kernel
theorem dX3_merge_3 : decode cX3_merge 3 = .ok (.invokevirtual 41, 3) := by decide +kernel
theorem dX3_merge_6 : decode cX3_merge 6 = .ok (.ifCond .eq 7, 3) := by decide +kernel
theorem dX3_merge_9 : decode cX3_merge 9 = .ok (.iconst 0, 1) := by decide +kernel
theorem dX3_merge_10 : decode cX3_merge 10 = .ok (.goto 4, 3) := by decide +kernel
theorem dX3_merge_13 : decode cX3_merge 13 = .ok (.iconst 1, 1) := by decide +kernel
theorem dX3_merge_14 : decode cX3_merge 14 = .ok (.putfield 29, 3) := by decide +kernel
theorem dX3_merge_17 : decode cX3_merge 17 = .ok (.iconst 0, 1) := by decide +kernel
theorem dX3_merge_18 : decode cX3_merge 18 = .ok (.istore_n 2, 1) := by decide +kernel
theorem dX3_merge_19 : decode cX3_merge 19 = .ok (.iconst 0, 1) := by decide +kernel
theorem dX3_merge_20 : decode cX3_merge 20 = .ok (.istore_n 3, 1) := by decide +kernel
theorem dX3_merge_21 : decode cX3_merge 21 = .ok (.aload_n 0, 1) := by decide +kernel
theorem dX3_merge_22 : decode cX3_merge 22 = .ok (.getfield 29, 3) := by decide +kernel
theorem dX3_merge_25 : decode cX3_merge 25 = .ok (.ifCond .ne 47, 3) := by decide +kernel
theorem dX3_merge_28 : decode cX3_merge 28 = .ok (.iload_n 3, 1) := by decide +kernel
theorem dX3_merge_29 : decode cX3_merge 29 = .ok (.aload_n 0, 1) := by decide +kernel
theorem dX3_merge_30 : decode cX3_merge 30 = .ok (.getfield 16, 3) := by decide +kernel
theorem dX3_merge_33 : decode cX3_merge 33 = .ok (.iload_n 1, 1) := by decide +kernel
theorem dX3_merge_34 : decode cX3_merge 34 = .ok (.iaload, 1) := by decide +kernel
theorem dX3_merge_35 : decode cX3_merge 35 = .ok (.if_icmp .ge 37, 3) := by decide +kernel
theorem dX3_merge_38 : decode cX3_merge 38 = .ok (.iload_n 2, 1) := by decide +kernel
theorem dX3_merge_39 : decode cX3_merge 39 = .ok (.aload_n 0, 1) := by decide +kernel
theorem dX3_merge_40 : decode cX3_merge 40 = .ok (.iconst 0, 1) := by decide +kernel
theorem dX3_merge_41 : decode cX3_merge 41 = .ok (.aload_n 0, 1) := by decide +kernel
theorem dX3_merge_42 : decode cX3_merge 42 = .ok (.getfield 7, 3) := by decide +kernel
theorem dX3_merge_45 : decode cX3_merge 45 = .ok (.sipush 600, 3) := by decide +kernel
theorem dX3_merge_48 : decode cX3_merge 48 = .ok (.iload_n 1, 1) := by decide +kernel
theorem dX3_merge_49 : decode cX3_merge 49 = .ok (.imul, 1) := by decide +kernel
theorem dX3_merge_50 : decode cX3_merge 50 = .ok (.iload_n 3, 1) := by decide +kernel
theorem dX3_merge_51 : decode cX3_merge 51 = .ok (.iadd, 1) := by decide +kernel
theorem dX3_merge_52 : decode cX3_merge 52 = .ok (.iaload, 1) := by decide +kernel
theorem dX3_merge_53 : decode cX3_merge 53 = .ok (.invokevirtual 37, 3) := by decide +kernel
theorem dX3_merge_56 : decode cX3_merge 56 = .ok (.ifCond .eq 7, 3) := by decide +kernel
theorem dX3_merge_59 : decode cX3_merge 59 = .ok (.iconst 0, 1) := by decide +kernel
theorem dX3_merge_60 : decode cX3_merge 60 = .ok (.goto 4, 3) := by decide +kernel
theorem dX3_merge_63 : decode cX3_merge 63 = .ok (.iconst 1, 1) := by decide +kernel
theorem dX3_merge_64 : decode cX3_merge 64 = .ok (.iadd, 1) := by decide +kernel
theorem dX3_merge_65 : decode cX3_merge 65 = .ok (.istore_n 2, 1) := by decide +kernel
theorem dX3_merge_66 : decode cX3_merge 66 = .ok (.iinc 3 1, 3) := by decide +kernel
theorem dX3_merge_69 : decode cX3_merge 69 = .ok (.goto (-48), 3) := by decide +kernel
theorem dX3_merge_72 : decode cX3_merge 72 = .ok (.aload_n 0, 1) := by decide +kernel
theorem dX3_merge_73 : decode cX3_merge 73 = .ok (.aload_n 0, 1) := by decide +kernel
theorem dX3_merge_74 : decode cX3_merge 74 = .ok (.getfield 29, 3) := by decide +kernel
theorem dX3_merge_77 : decode cX3_merge 77 = .ok (.ifCond .ne 21, 3) := by decide +kernel
theorem dX3_merge_80 : decode cX3_merge 80 = .ok (.aload_n 0, 1) := by decide +kernel
theorem dX3_merge_81 : decode cX3_merge 81 = .ok (.getfield 16, 3) := by decide +kernel
theorem dX3_merge_84 : decode cX3_merge 84 = .ok (.iconst 0, 1) := by decide +kernel
theorem dX3_merge_85 : decode cX3_merge 85 = .ok (.iaload, 1) := by decide +kernel
theorem dX3_merge_86 : decode cX3_merge 86 = .ok (.iload_n 2, 1) := by decide +kernel
theorem dX3_merge_87 : decode cX3_merge 87 = .ok (.iadd, 1) := by decide +kernel
theorem dX3_merge_88 : decode cX3_merge 88 = .ok (.sipush 600, 3) := by decide +kernel
theorem dX3_merge_91 : decode cX3_merge 91 = .ok (.if_icmp .le 7, 3) := by decide +kernel
theorem dX3_merge_94 : decode cX3_merge 94 = .ok (.iconst 2, 1) := by decide +kernel
theorem dX3_merge_95 : decode cX3_merge 95 = .ok (.goto 7, 3) := by decide +kernel
theorem dX3_merge_98 : decode cX3_merge 98 = .ok (.aload_n 0, 1) := by decide +kernel
theorem dX3_merge_99 : decode cX3_merge 99 = .ok (.getfield 29, 3) := by decide +kernel
theorem dX3_merge_102 : decode cX3_merge 102 = .ok (.putfield 29, 3) := by decide +kernel
theorem dX3_merge_105 : decode cX3_merge 105 = .ok (.aload_n 0, 1) := by decide +kernel
theorem dX3_merge_106 : decode cX3_merge 106 = .ok (.getfield 29, 3) := by decide +kernel
theorem dX3_merge_109 : decode cX3_merge 109 = .ok (.ifCond .le 5, 3) := by decide +kernel
theorem dX3_merge_112 : decode cX3_merge 112 = .ok (.iconst 0, 1) := by decide +kernel
theorem dX3_merge_113 : decode cX3_merge 113 = .ok (.ireturn, 1) := by decide +kernel
theorem dX3_merge_114 : decode cX3_merge 114 = .ok (.iconst 0, 1) := by decide +kernel
theorem dX3_merge_115 : decode cX3_merge 115 = .ok (.istore_n 3, 1) := by decide +kernel
theorem dX3_merge_116 : decode cX3_merge 116 = .ok (.iload_n 3, 1) := by decide +kernel
theorem dX3_merge_117 : decode cX3_merge 117 = .ok (.aload_n 0, 1) := by decide +kernel
theorem dX3_merge_118 : decode cX3_merge 118 = .ok (.getfield 16, 3) := by decide +kernel
theorem dX3_merge_121 : decode cX3_merge 121 = .ok (.iload_n 1, 1) := by decide +kernel
theorem dX3_merge_122 : decode cX3_merge 122 = .ok (.iaload, 1) := by decide +kernel
theorem dX3_merge_123 : decode cX3_merge 123 = .ok (.if_icmp .ge 55, 3) := by decide +kernel
theorem dX3_merge_126 : decode cX3_merge 126 = .ok (.iload_n 2, 1) := by decide +kernel
theorem dX3_merge_127 : decode cX3_merge 127 = .ok (.ifCond .le 51, 3) := by decide +kernel
theorem dX3_merge_130 : decode cX3_merge 130 = .ok (.sipush 600, 3) := by decide +kernel
theorem dX3_merge_133 : decode cX3_merge 133 = .ok (.iload_n 1, 1) := by decide +kernel
theorem dX3_merge_134 : decode cX3_merge 134 = .ok (.imul, 1) := by decide +kernel
theorem dX3_merge_135 : decode cX3_merge 135 = .ok (.iload_n 3, 1) := by decide +kernel
theorem dX3_merge_136 : decode cX3_merge 136 = .ok (.iadd, 1) := by decide +kernel
theorem dX3_merge_137 : decode cX3_merge 137 = .ok (.istore 4, 2) := by decide +kernel
theorem dX3_merge_139 : decode cX3_merge 139 = .ok (.aload_n 0, 1) := by decide +kernel
theorem dX3_merge_140 : decode cX3_merge 140 = .ok (.iconst 0, 1) := by decide +kernel
theorem dX3_merge_141 : decode cX3_merge 141 = .ok (.aload_n 0, 1) := by decide +kernel
theorem dX3_merge_142 : decode cX3_merge 142 = .ok (.getfield 7, 3) := by decide +kernel
theorem dX3_merge_145 : decode cX3_merge 145 = .ok (.iload 4, 2) := by decide +kernel
theorem dX3_merge_147 : decode cX3_merge 147 = .ok (.iaload, 1) := by decide +kernel
theorem dX3_merge_148 : decode cX3_merge 148 = .ok (.invokevirtual 37, 3) := by decide +kernel
theorem dX3_merge_151 : decode cX3_merge 151 = .ok (.ifCond .ne 21, 3) := by decide +kernel
theorem dX3_merge_154 : decode cX3_merge 154 = .ok (.aload_n 0, 1) := by decide +kernel
theorem dX3_merge_155 : decode cX3_merge 155 = .ok (.aload_n 0, 1) := by decide +kernel
theorem dX3_merge_156 : decode cX3_merge 156 = .ok (.getfield 7, 3) := by decide +kernel
theorem dX3_merge_159 : decode cX3_merge 159 = .ok (.iload 4, 2) := by decide +kernel
theorem dX3_merge_161 : decode cX3_merge 161 = .ok (.iaload, 1) := by decide +kernel
theorem dX3_merge_162 : decode cX3_merge 162 = .ok (.aload_n 0, 1) := by decide +kernel
theorem dX3_merge_163 : decode cX3_merge 163 = .ok (.getfield 13, 3) := by decide +kernel
theorem dX3_merge_166 : decode cX3_merge 166 = .ok (.iload 4, 2) := by decide +kernel
theorem dX3_merge_168 : decode cX3_merge 168 = .ok (.iaload, 1) := by decide +kernel
theorem dX3_merge_169 : decode cX3_merge 169 = .ok (.invokevirtual 45, 3) := by decide +kernel
theorem dX3_merge_172 : decode cX3_merge 172 = .ok (.iinc 3 1, 3) := by decide +kernel
theorem dX3_merge_175 : decode cX3_merge 175 = .ok (.goto (-59), 3) := by decide +kernel
theorem dX3_merge_178 : decode cX3_merge 178 = .ok (.iload_n 2, 1) := by decide +kernel
theorem dX3_merge_179 : decode cX3_merge 179 = .ok (.ireturn, 1) := by decide +kernel
set_option maxRecDepth 20000 in
theorem ggX3_snapshot_X3_spare : GoodIn wsX3_snapshot wsX3_spare := goodIn_r _ [7, 2, 15, 16, 17, 18, 19, 20, 21] (by decide +kernel) (by decide +kernel)
set_option maxRecDepth 20000 in
theorem gX3_snapshot_X3_spare : GoodIn wsX3_snapshot (wsV RX3 61 RX3 yX3_spare wsX3_spare) := goodIn_app (goodIn_of _ (by decide +kernel)) ggX3_snapshot_X3_spare
set_option maxRecDepth 20000 in
theorem ggX3_snapshot_X3_copy : GoodIn wsX3_snapshot wsX3_copy := goodIn_r _ [11, 12, 13, 14, 15, 16, 17, 18, 19, 20, 21] (by decide +kernel) (by decide +kernel)
set_option maxRecDepth 20000 in
theorem gX3_snapshot_X3_copy : GoodIn wsX3_snapshot (wsV RX3 64 RX3 yX3_copy wsX3_copy) := goodIn_app (goodIn_of _ (by decide +kernel)) ggX3_snapshot_X3_copy
theorem dX3_snapshot_0 : decode cX3_snapshot 0 = .ok (.aload_n 0, 1) := by decide +kernel
theorem dX3_snapshot_1 : decode cX3_snapshot 1 = .ok (.iconst 1, 1) := by decide +kernel
theorem dX3_snapshot_2 : decode cX3_snapshot 2 = .ok (.bipush 12, 2) := by decide +kernel
theorem dX3_snapshot_4 : decode cX3_snapshot 4 = .ok (.invokevirtual 61, 3) := by decide +kernel
theorem dX3_snapshot_7 : decode cX3_snapshot 7 = .ok (.istore_n 1, 1) := by decide +kernel
theorem dX3_snapshot_8 : decode cX3_snapshot 8 = .ok (.aload_n 0, 1) := by decide +kernel
theorem dX3_snapshot_9 : decode cX3_snapshot 9 = .ok (.iload_n 1, 1) := by decide +kernel
theorem dX3_snapshot_10 : decode cX3_snapshot 10 = .ok (.ifCond .ge 7, 3) := by decide +kernel
theorem dX3_snapshot_13 : decode cX3_snapshot 13 = .ok (.iconst 1, 1) := by decide +kernel
theorem dX3_snapshot_14 : decode cX3_snapshot 14 = .ok (.goto 4, 3) := by decide +kernel
theorem dX3_snapshot_17 : decode cX3_snapshot 17 = .ok (.iconst 0, 1) := by decide +kernel
theorem dX3_snapshot_18 : decode cX3_snapshot 18 = .ok (.putfield 29, 3) := by decide +kernel
theorem dX3_snapshot_21 : decode cX3_snapshot 21 = .ok (.aload_n 0, 1) := by decide +kernel
theorem dX3_snapshot_22 : decode cX3_snapshot 22 = .ok (.getfield 29, 3) := by decide +kernel
theorem dX3_snapshot_25 : decode cX3_snapshot 25 = .ok (.ifCond .le 5, 3) := by decide +kernel
theorem dX3_snapshot_28 : decode cX3_snapshot 28 = .ok (.iconst 0, 1) := by decide +kernel
theorem dX3_snapshot_29 : decode cX3_snapshot 29 = .ok (.ireturn, 1) := by decide +kernel
theorem dX3_snapshot_30 : decode cX3_snapshot 30 = .ok (.aload_n 0, 1) := by decide +kernel
theorem dX3_snapshot_31 : decode cX3_snapshot 31 = .ok (.getfield 19, 3) := by decide +kernel
theorem dX3_snapshot_34 : decode cX3_snapshot 34 = .ok (.iload_n 1, 1) := by decide +kernel
theorem dX3_snapshot_35 : decode cX3_snapshot 35 = .ok (.iconst 1, 1) := by decide +kernel
theorem dX3_snapshot_36 : decode cX3_snapshot 36 = .ok (.bastore, 1) := by decide +kernel
theorem dX3_snapshot_37 : decode cX3_snapshot 37 = .ok (.aload_n 0, 1) := by decide +kernel
theorem dX3_snapshot_38 : decode cX3_snapshot 38 = .ok (.iconst 0, 1) := by decide +kernel
theorem dX3_snapshot_39 : decode cX3_snapshot 39 = .ok (.iload_n 1, 1) := by decide +kernel
theorem dX3_snapshot_40 : decode cX3_snapshot 40 = .ok (.invokevirtual 64, 3) := by decide +kernel
theorem dX3_snapshot_43 : decode cX3_snapshot 43 = .ok (.iload_n 1, 1) := by decide +kernel
theorem dX3_snapshot_44 : decode cX3_snapshot 44 = .ok (.ireturn, 1) := by decide +kernel
set_option maxRecDepth 20000 in
theorem ggX3_release_X3_isSnapshot : GoodIn wsX3_release wsX3_isSnapshot := goodIn_r _ [7, 8, 9, 10, 6, 11, 2, 12, 13, 14, 15, 16, 17, 18] (by decide +kernel) (by decide +kernel)
set_option maxRecDepth 20000 in
theorem gX3_release_X3_isSnapshot : GoodIn wsX3_release (wsV RX3 67 RX3 yX3_isSnapshot wsX3_isSnapshot) := goodIn_app (goodIn_of _ (by decide +kernel)) ggX3_release_X3_isSnapshot
theorem dX3_release_0 : decode cX3_release 0 = .ok (.aload_n 0, 1) := by decide +kernel
theorem dX3_release_1 : decode cX3_release 1 = .ok (.aload_n 0, 1) := by decide +kernel
theorem dX3_release_2 : decode cX3_release 2 = .ok (.iload_n 1, 1) := by decide +kernel
theorem dX3_release_3 : decode cX3_release 3 = .ok (.invokevirtual 67, 3) := by decide +kernel
theorem dX3_release_6 : decode cX3_release 6 = .ok (.ifCond .eq 7, 3) := by decide +kernel
theorem dX3_release_9 : decode cX3_release 9 = .ok (.iconst 0, 1) := by decide +kernel
theorem dX3_release_10 : decode cX3_release 10 = .ok (.goto 4, 3) := by decide +kernel
theorem dX3_release_13 : decode cX3_release 13 = .ok (.iconst 1, 1) := by decide +kernel
theorem dX3_release_14 : decode cX3_release 14 = .ok (.putfield 29, 3) := by decide +kernel
theorem dX3_release_17 : decode cX3_release 17 = .ok (.aload_n 0, 1) := by decide +kernel
theorem dX3_release_18 : decode cX3_release 18 = .ok (.getfield 29, 3) := by decide +kernel
theorem dX3_release_21 : decode cX3_release 21 = .ok (.ifCond .le 5, 3) := by decide +kernel
theorem dX3_release_24 : decode cX3_release 24 = .ok (.iconst 0, 1) := by decide +kernel
theorem dX3_release_25 : decode cX3_release 25 = .ok (.ireturn, 1) := by decide +kernel
theorem dX3_release_26 : decode cX3_release 26 = .ok (.aload_n 0, 1) := by decide +kernel
theorem dX3_release_27 : decode cX3_release 27 = .ok (.getfield 19, 3) := by decide +kernel
theorem dX3_release_30 : decode cX3_release 30 = .ok (.iload_n 1, 1) := by decide +kernel
theorem dX3_release_31 : decode cX3_release 31 = .ok (.iconst 0, 1) := by decide +kernel
theorem dX3_release_32 : decode cX3_release 32 = .ok (.bastore, 1) := by decide +kernel
theorem dX3_release_33 : decode cX3_release 33 = .ok (.iconst 0, 1) := by decide +kernel
theorem dX3_release_34 : decode cX3_release 34 = .ok (.istore_n 2, 1) := by decide +kernel
theorem dX3_release_35 : decode cX3_release 35 = .ok (.iconst 1, 1) := by decide +kernel
theorem dX3_release_36 : decode cX3_release 36 = .ok (.istore_n 3, 1) := by decide +kernel
theorem dX3_release_37 : decode cX3_release 37 = .ok (.iload_n 3, 1) := by decide +kernel
theorem dX3_release_38 : decode cX3_release 38 = .ok (.bipush 12, 2) := by decide +kernel
theorem dX3_release_40 : decode cX3_release 40 = .ok (.if_icmp .gt 26, 3) := by decide +kernel
theorem dX3_release_43 : decode cX3_release 43 = .ok (.iload_n 2, 1) := by decide +kernel
theorem dX3_release_44 : decode cX3_release 44 = .ok (.aload_n 0, 1) := by decide +kernel
theorem dX3_release_45 : decode cX3_release 45 = .ok (.getfield 19, 3) := by decide +kernel
theorem dX3_release_48 : decode cX3_release 48 = .ok (.iload_n 3, 1) := by decide +kernel
theorem dX3_release_49 : decode cX3_release 49 = .ok (.baload, 1) := by decide +kernel
theorem dX3_release_50 : decode cX3_release 50 = .ok (.ifCond .eq 7, 3) := by decide +kernel
theorem dX3_release_53 : decode cX3_release 53 = .ok (.iconst 1, 1) := by decide +kernel
theorem dX3_release_54 : decode cX3_release 54 = .ok (.goto 4, 3) := by decide +kernel
theorem dX3_release_57 : decode cX3_release 57 = .ok (.iconst 0, 1) := by decide +kernel
theorem dX3_release_58 : decode cX3_release 58 = .ok (.iadd, 1) := by decide +kernel
theorem dX3_release_59 : decode cX3_release 59 = .ok (.istore_n 2, 1) := by decide +kernel
theorem dX3_release_60 : decode cX3_release 60 = .ok (.iinc 3 1, 3) := by decide +kernel
theorem dX3_release_63 : decode cX3_release 63 = .ok (.goto (-26), 3) := by decide +kernel
theorem dX3_release_66 : decode cX3_release 66 = .ok (.iload_n 2, 1) := by decide +kernel
theorem dX3_release_67 : decode cX3_release 67 = .ok (.ireturn, 1) := by decide +kernel
set_option maxRecDepth 20000 in
theorem ggX3_restore_X3_isSnapshot : GoodIn wsX3_restore wsX3_isSnapshot := goodIn_r _ [7, 8, 9, 10, 6, 11, 12, 19, 20, 21, 22, 23, 24, 25] (by decide +kernel) (by decide +kernel)
set_option maxRecDepth 20000 in
theorem gX3_restore_X3_isSnapshot : GoodIn wsX3_restore (wsV RX3 67 RX3 yX3_isSnapshot wsX3_isSnapshot) := goodIn_app (goodIn_of _ (by decide +kernel)) ggX3_restore_X3_isSnapshot
set_option maxRecDepth 20000 in
theorem ggX3_restore_X3_copy : GoodIn wsX3_restore wsX3_copy := goodIn_r _ [16, 2, 17, 18, 19, 20, 21, 22, 23, 24, 25] (by decide +kernel) (by decide +kernel)
set_option maxRecDepth 20000 in
theorem gX3_restore_X3_copy : GoodIn wsX3_restore (wsV RX3 64 RX3 yX3_copy wsX3_copy) := goodIn_app (goodIn_of _ (by decide +kernel)) ggX3_restore_X3_copy
theorem dX3_restore_0 : decode cX3_restore 0 = .ok (.aload_n 0, 1) := by decide +kernel
theorem dX3_restore_1 : decode cX3_restore 1 = .ok (.aload_n 0, 1) := by decide +kernel
theorem dX3_restore_2 : decode cX3_restore 2 = .ok (.iload_n 1, 1) := by decide +kernel
theorem dX3_restore_3 : decode cX3_restore 3 = .ok (.invokevirtual 67, 3) := by decide +kernel
theorem dX3_restore_6 : decode cX3_restore 6 = .ok (.ifCond .eq 7, 3) := by decide +kernel
theorem dX3_restore_9 : decode cX3_restore 9 = .ok (.iconst 0, 1) := by decide +kernel
theorem dX3_restore_10 : decode cX3_restore 10 = .ok (.goto 4, 3) := by decide +kernel
theorem dX3_restore_13 : decode cX3_restore 13 = .ok (.iconst 1, 1) := by decide +kernel
theorem dX3_restore_14 : decode cX3_restore 14 = .ok (.putfield 29, 3) := by decide +kernel
theorem dX3_restore_17 : decode cX3_restore 17 = .ok (.aload_n 0, 1) := by decide +kernel
theorem dX3_restore_18 : decode cX3_restore 18 = .ok (.getfield 29, 3) := by decide +kernel
theorem dX3_restore_21 : decode cX3_restore 21 = .ok (.ifCond .le 5, 3) := by decide +kernel
theorem dX3_restore_24 : decode cX3_restore 24 = .ok (.iconst 0, 1) := by decide +kernel
theorem dX3_restore_25 : decode cX3_restore 25 = .ok (.ireturn, 1) := by decide +kernel
theorem dX3_restore_26 : decode cX3_restore 26 = .ok (.aload_n 0, 1) := by decide +kernel
theorem dX3_restore_27 : decode cX3_restore 27 = .ok (.iload_n 1, 1) := by decide +kernel
theorem dX3_restore_28 : decode cX3_restore 28 = .ok (.iconst 0, 1) := by decide +kernel
theorem dX3_restore_29 : decode cX3_restore 29 = .ok (.invokevirtual 64, 3) := by decide +kernel
theorem dX3_restore_32 : decode cX3_restore 32 = .ok (.aload_n 0, 1) := by decide +kernel
theorem dX3_restore_33 : decode cX3_restore 33 = .ok (.getfield 16, 3) := by decide +kernel
theorem dX3_restore_36 : decode cX3_restore 36 = .ok (.iconst 0, 1) := by decide +kernel
theorem dX3_restore_37 : decode cX3_restore 37 = .ok (.iaload, 1) := by decide +kernel
theorem dX3_restore_38 : decode cX3_restore 38 = .ok (.ireturn, 1) := by decide +kernel
set_option maxRecDepth 20000 in
theorem ggX3_size_X3_isVersion : GoodIn wsX3_size wsX3_isVersion := goodIn_r _ [7, 8, 9, 10, 11, 12, 13, 14, 15] (by decide +kernel) (by decide +kernel)
set_option maxRecDepth 20000 in
theorem gX3_size_X3_isVersion : GoodIn wsX3_size (wsV RX3 41 RX3 yX3_isVersion wsX3_isVersion) := goodIn_app (goodIn_of _ (by decide +kernel)) ggX3_size_X3_isVersion
theorem dX3_size_0 : decode cX3_size 0 = .ok (.aload_n 0, 1) := by decide +kernel
theorem dX3_size_1 : decode cX3_size 1 = .ok (.aload_n 0, 1) := by decide +kernel
theorem dX3_size_2 : decode cX3_size 2 = .ok (.iload_n 1, 1) := by decide +kernel
theorem dX3_size_3 : decode cX3_size 3 = .ok (.invokevirtual 41, 3) := by decide +kernel
theorem dX3_size_6 : decode cX3_size 6 = .ok (.ifCond .eq 7, 3) := by decide +kernel
theorem dX3_size_9 : decode cX3_size 9 = .ok (.iconst 0, 1) := by decide +kernel
theorem dX3_size_10 : decode cX3_size 10 = .ok (.goto 4, 3) := by decide +kernel
theorem dX3_size_13 : decode cX3_size 13 = .ok (.iconst 1, 1) := by decide +kernel
theorem dX3_size_14 : decode cX3_size 14 = .ok (.putfield 29, 3) := by decide +kernel
theorem dX3_size_17 : decode cX3_size 17 = .ok (.aload_n 0, 1) := by decide +kernel
theorem dX3_size_18 : decode cX3_size 18 = .ok (.getfield 29, 3) := by decide +kernel
theorem dX3_size_21 : decode cX3_size 21 = .ok (.ifCond .le 7, 3) := by decide +kernel
theorem dX3_size_24 : decode cX3_size 24 = .ok (.iconst 0, 1) := by decide +kernel
theorem dX3_size_25 : decode cX3_size 25 = .ok (.goto 9, 3) := by decide +kernel
theorem dX3_size_28 : decode cX3_size 28 = .ok (.aload_n 0, 1) := by decide +kernel
theorem dX3_size_29 : decode cX3_size 29 = .ok (.getfield 16, 3) := by decide +kernel
theorem dX3_size_32 : decode cX3_size 32 = .ok (.iload_n 1, 1) := by decide +kernel
theorem dX3_size_33 : decode cX3_size 33 = .ok (.iaload, 1) := by decide +kernel
theorem dX3_size_34 : decode cX3_size 34 = .ok (.ireturn, 1) := by decide +kernel
set_option maxRecDepth 20000 in
theorem ggX3_get_X3_isVersion : GoodIn wsX3_get wsX3_isVersion := goodIn_r _ [7, 8, 19, 20, 21, 22, 23, 24, 25] (by decide +kernel) (by decide +kernel)
set_option maxRecDepth 20000 in
theorem gX3_get_X3_isVersion : GoodIn wsX3_get (wsV RX3 41 RX3 yX3_isVersion wsX3_isVersion) := goodIn_app (goodIn_of _ (by decide +kernel)) ggX3_get_X3_isVersion
set_option maxRecDepth 20000 in
theorem ggX3_get_X3_has : GoodIn wsX3_get wsX3_has := goodIn_r _ [12, 13, 14, 15, 16, 17, 6, 18, 19, 20, 21, 22, 23, 24, 25] (by decide +kernel) (by decide +kernel)
set_option maxRecDepth 20000 in
theorem gX3_get_X3_has : GoodIn wsX3_get (wsV RX3 37 RX3 yX3_has wsX3_has) := goodIn_app (goodIn_of _ (by decide +kernel)) ggX3_get_X3_has
set_option maxRecDepth 20000 in
theorem ggX3_get_X3_below : GoodIn wsX3_get wsX3_below := goodIn_r _ [18, 13, 14, 19, 20, 21, 22, 23, 24, 25] (by decide +kernel) (by decide +kernel)
set_option maxRecDepth 20000 in
theorem gX3_get_X3_below : GoodIn wsX3_get (wsV RX3 33 RX3 yX3_below wsX3_below) := goodIn_app (goodIn_of _ (by decide +kernel)) ggX3_get_X3_below
theorem dX3_get_0 : decode cX3_get 0 = .ok (.aload_n 0, 1) := by decide +kernel
theorem dX3_get_1 : decode cX3_get 1 = .ok (.aload_n 0, 1) := by decide +kernel
theorem dX3_get_2 : decode cX3_get 2 = .ok (.iload_n 1, 1) := by decide +kernel
theorem dX3_get_3 : decode cX3_get 3 = .ok (.invokevirtual 41, 3) := by decide +kernel
theorem dX3_get_6 : decode cX3_get 6 = .ok (.ifCond .ne 7, 3) := by decide +kernel
theorem dX3_get_9 : decode cX3_get 9 = .ok (.iconst 1, 1) := by decide +kernel
theorem dX3_get_10 : decode cX3_get 10 = .ok (.goto 17, 3) := by decide +kernel
theorem dX3_get_13 : decode cX3_get 13 = .ok (.aload_n 0, 1) := by decide +kernel
theorem dX3_get_14 : decode cX3_get 14 = .ok (.iload_n 1, 1) := by decide +kernel
theorem dX3_get_15 : decode cX3_get 15 = .ok (.iload_n 2, 1) := by decide +kernel
theorem dX3_get_16 : decode cX3_get 16 = .ok (.invokevirtual 37, 3) := by decide +kernel
theorem dX3_get_19 : decode cX3_get 19 = .ok (.ifCond .eq 7, 3) := by decide +kernel
theorem dX3_get_22 : decode cX3_get 22 = .ok (.iconst 0, 1) := by decide +kernel
theorem dX3_get_23 : decode cX3_get 23 = .ok (.goto 4, 3) := by decide +kernel
theorem dX3_get_26 : decode cX3_get 26 = .ok (.iconst 2, 1) := by decide +kernel
theorem dX3_get_27 : decode cX3_get 27 = .ok (.putfield 29, 3) := by decide +kernel
theorem dX3_get_30 : decode cX3_get 30 = .ok (.aload_n 0, 1) := by decide +kernel
theorem dX3_get_31 : decode cX3_get 31 = .ok (.getfield 29, 3) := by decide +kernel
theorem dX3_get_34 : decode cX3_get 34 = .ok (.ifCond .le 7, 3) := by decide +kernel
theorem dX3_get_37 : decode cX3_get 37 = .ok (.iconst 0, 1) := by decide +kernel
theorem dX3_get_38 : decode cX3_get 38 = .ok (.goto 20, 3) := by decide +kernel
theorem dX3_get_41 : decode cX3_get 41 = .ok (.aload_n 0, 1) := by decide +kernel
theorem dX3_get_42 : decode cX3_get 42 = .ok (.getfield 13, 3) := by decide +kernel
theorem dX3_get_45 : decode cX3_get 45 = .ok (.sipush 600, 3) := by decide +kernel
theorem dX3_get_48 : decode cX3_get 48 = .ok (.iload_n 1, 1) := by decide +kernel
theorem dX3_get_49 : decode cX3_get 49 = .ok (.imul, 1) := by decide +kernel
theorem dX3_get_50 : decode cX3_get 50 = .ok (.aload_n 0, 1) := by decide +kernel
theorem dX3_get_51 : decode cX3_get 51 = .ok (.iload_n 1, 1) := by decide +kernel
theorem dX3_get_52 : decode cX3_get 52 = .ok (.iload_n 2, 1) := by decide +kernel
theorem dX3_get_53 : decode cX3_get 53 = .ok (.invokevirtual 33, 3) := by decide +kernel
theorem dX3_get_56 : decode cX3_get 56 = .ok (.iadd, 1) := by decide +kernel
theorem dX3_get_57 : decode cX3_get 57 = .ok (.iaload, 1) := by decide +kernel
theorem dX3_get_58 : decode cX3_get 58 = .ok (.ireturn, 1) := by decide +kernel
set_option maxRecDepth 20000 in
theorem ggX3_rank_X3_isVersion : GoodIn wsX3_rank wsX3_isVersion := goodIn_r _ [6, 7, 14, 15, 16, 17, 18, 19, 20] (by decide +kernel) (by decide +kernel)
set_option maxRecDepth 20000 in
theorem gX3_rank_X3_isVersion : GoodIn wsX3_rank (wsV RX3 41 RX3 yX3_isVersion wsX3_isVersion) := goodIn_app (goodIn_of _ (by decide +kernel)) ggX3_rank_X3_isVersion
set_option maxRecDepth 20000 in
theorem ggX3_rank_X3_below : GoodIn wsX3_rank wsX3_below := goodIn_r _ [11, 12, 13, 14, 15, 16, 17, 18, 19, 20] (by decide +kernel) (by decide +kernel)
set_option maxRecDepth 20000 in
theorem gX3_rank_X3_below : GoodIn wsX3_rank (wsV RX3 33 RX3 yX3_below wsX3_below) := goodIn_app (goodIn_of _ (by decide +kernel)) ggX3_rank_X3_below
theorem dX3_rank_0 : decode cX3_rank 0 = .ok (.aload_n 0, 1) := by decide +kernel
theorem dX3_rank_1 : decode cX3_rank 1 = .ok (.aload_n 0, 1) := by decide +kernel
theorem dX3_rank_2 : decode cX3_rank 2 = .ok (.iload_n 1, 1) := by decide +kernel
theorem dX3_rank_3 : decode cX3_rank 3 = .ok (.invokevirtual 41, 3) := by decide +kernel
theorem dX3_rank_6 : decode cX3_rank 6 = .ok (.ifCond .eq 7, 3) := by decide +kernel
theorem dX3_rank_9 : decode cX3_rank 9 = .ok (.iconst 0, 1) := by decide +kernel
theorem dX3_rank_10 : decode cX3_rank 10 = .ok (.goto 4, 3) := by decide +kernel
theorem dX3_rank_13 : decode cX3_rank 13 = .ok (.iconst 1, 1) := by decide +kernel
theorem dX3_rank_14 : decode cX3_rank 14 = .ok (.putfield 29, 3) := by decide +kernel
theorem dX3_rank_17 : decode cX3_rank 17 = .ok (.aload_n 0, 1) := by decide +kernel
theorem dX3_rank_18 : decode cX3_rank 18 = .ok (.getfield 29, 3) := by decide +kernel
theorem dX3_rank_21 : decode cX3_rank 21 = .ok (.ifCond .le 7, 3) := by decide +kernel
theorem dX3_rank_24 : decode cX3_rank 24 = .ok (.iconst 0, 1) := by decide +kernel
theorem dX3_rank_25 : decode cX3_rank 25 = .ok (.goto 9, 3) := by decide +kernel
theorem dX3_rank_28 : decode cX3_rank 28 = .ok (.aload_n 0, 1) := by decide +kernel
theorem dX3_rank_29 : decode cX3_rank 29 = .ok (.iload_n 1, 1) := by decide +kernel
theorem dX3_rank_30 : decode cX3_rank 30 = .ok (.iload_n 2, 1) := by decide +kernel
theorem dX3_rank_31 : decode cX3_rank 31 = .ok (.invokevirtual 33, 3) := by decide +kernel
theorem dX3_rank_34 : decode cX3_rank 34 = .ok (.ireturn, 1) := by decide +kernel
set_option maxRecDepth 20000 in
theorem ggX3_select_X3_isVersion : GoodIn wsX3_select wsX3_isVersion := goodIn_r _ [8, 9, 10, 11, 12, 13, 14, 15, 16] (by decide +kernel) (by decide +kernel)
set_option maxRecDepth 20000 in
theorem gX3_select_X3_isVersion : GoodIn wsX3_select (wsV RX3 41 RX3 yX3_isVersion wsX3_isVersion) := goodIn_app (goodIn_of _ (by decide +kernel)) ggX3_select_X3_isVersion
theorem dX3_select_0 : decode cX3_select 0 = .ok (.aload_n 0, 1) := by decide +kernel
theorem dX3_select_1 : decode cX3_select 1 = .ok (.aload_n 0, 1) := by decide +kernel
theorem dX3_select_2 : decode cX3_select 2 = .ok (.iload_n 1, 1) := by decide +kernel
theorem dX3_select_3 : decode cX3_select 3 = .ok (.invokevirtual 41, 3) := by decide +kernel
theorem dX3_select_6 : decode cX3_select 6 = .ok (.ifCond .ne 7, 3) := by decide +kernel
theorem dX3_select_9 : decode cX3_select 9 = .ok (.iconst 1, 1) := by decide +kernel
theorem dX3_select_10 : decode cX3_select 10 = .ok (.goto 22, 3) := by decide +kernel
theorem dX3_select_13 : decode cX3_select 13 = .ok (.iload_n 2, 1) := by decide +kernel
theorem dX3_select_14 : decode cX3_select 14 = .ok (.ifCond .lt 13, 3) := by decide +kernel
theorem dX3_select_17 : decode cX3_select 17 = .ok (.iload_n 2, 1) := by decide +kernel
theorem dX3_select_18 : decode cX3_select 18 = .ok (.aload_n 0, 1) := by decide +kernel
theorem dX3_select_19 : decode cX3_select 19 = .ok (.getfield 16, 3) := by decide +kernel
theorem dX3_select_22 : decode cX3_select 22 = .ok (.iload_n 1, 1) := by decide +kernel
theorem dX3_select_23 : decode cX3_select 23 = .ok (.iaload, 1) := by decide +kernel
theorem dX3_select_24 : decode cX3_select 24 = .ok (.if_icmp .lt 7, 3) := by decide +kernel
theorem dX3_select_27 : decode cX3_select 27 = .ok (.iconst 2, 1) := by decide +kernel
theorem dX3_select_28 : decode cX3_select 28 = .ok (.goto 4, 3) := by decide +kernel
theorem dX3_select_31 : decode cX3_select 31 = .ok (.iconst 0, 1) := by decide +kernel
theorem dX3_select_32 : decode cX3_select 32 = .ok (.putfield 29, 3) := by decide +kernel
theorem dX3_select_35 : decode cX3_select 35 = .ok (.aload_n 0, 1) := by decide +kernel
theorem dX3_select_36 : decode cX3_select 36 = .ok (.getfield 29, 3) := by decide +kernel
theorem dX3_select_39 : decode cX3_select 39 = .ok (.ifCond .le 7, 3) := by decide +kernel
theorem dX3_select_42 : decode cX3_select 42 = .ok (.iconst 0, 1) := by decide +kernel
theorem dX3_select_43 : decode cX3_select 43 = .ok (.goto 15, 3) := by decide +kernel
theorem dX3_select_46 : decode cX3_select 46 = .ok (.aload_n 0, 1) := by decide +kernel
theorem dX3_select_47 : decode cX3_select 47 = .ok (.getfield 7, 3) := by decide +kernel
theorem dX3_select_50 : decode cX3_select 50 = .ok (.sipush 600, 3) := by decide +kernel
theorem dX3_select_53 : decode cX3_select 53 = .ok (.iload_n 1, 1) := by decide +kernel
theorem dX3_select_54 : decode cX3_select 54 = .ok (.imul, 1) := by decide +kernel
theorem dX3_select_55 : decode cX3_select 55 = .ok (.iload_n 2, 1) := by decide +kernel
theorem dX3_select_56 : decode cX3_select 56 = .ok (.iadd, 1) := by decide +kernel
theorem dX3_select_57 : decode cX3_select 57 = .ok (.iaload, 1) := by decide +kernel
theorem dX3_select_58 : decode cX3_select 58 = .ok (.ireturn, 1) := by decide +kernel
set_option maxRecDepth 20000 in
theorem ggX3_near_X3_isVersion : GoodIn wsX3_near wsX3_isVersion := goodIn_r _ [8, 9, 22, 23, 24, 25, 26, 27, 28] (by decide +kernel) (by decide +kernel)
set_option maxRecDepth 20000 in
theorem gX3_near_X3_isVersion : GoodIn wsX3_near (wsV RX3 41 RX3 yX3_isVersion wsX3_isVersion) := goodIn_app (goodIn_of _ (by decide +kernel)) ggX3_near_X3_isVersion
set_option maxRecDepth 20000 in
theorem ggX3_near_X3_below : GoodIn wsX3_near wsX3_below := goodIn_r _ [13, 2, 3, 22, 23, 24, 25, 26, 27, 28] (by decide +kernel) (by decide +kernel)
set_option maxRecDepth 20000 in
theorem gX3_near_X3_below : GoodIn wsX3_near (wsV RX3 33 RX3 yX3_below wsX3_below) := goodIn_app (goodIn_of _ (by decide +kernel)) ggX3_near_X3_below
set_option maxRecDepth 20000 in
theorem ggX3_near_X3_upTo : GoodIn wsX3_near wsX3_upTo := goodIn_r _ [17, 10, 11, 12, 7, 13, 2, 3, 18, 19, 20, 21, 22, 23, 24, 25, 26, 27, 28] (by decide +kernel) (by decide +kernel)
set_option maxRecDepth 20000 in
theorem gX3_near_X3_upTo : GoodIn wsX3_near (wsV RX3 54 RX3 yX3_upTo wsX3_upTo) := goodIn_app (goodIn_of _ (by decide +kernel)) ggX3_near_X3_upTo
theorem dX3_near_0 : decode cX3_near 0 = .ok (.aload_n 0, 1) := by decide +kernel
theorem dX3_near_1 : decode cX3_near 1 = .ok (.aload_n 0, 1) := by decide +kernel
theorem dX3_near_2 : decode cX3_near 2 = .ok (.iload_n 1, 1) := by decide +kernel
theorem dX3_near_3 : decode cX3_near 3 = .ok (.invokevirtual 41, 3) := by decide +kernel
theorem dX3_near_6 : decode cX3_near 6 = .ok (.ifCond .eq 7, 3) := by decide +kernel
theorem dX3_near_9 : decode cX3_near 9 = .ok (.iconst 0, 1) := by decide +kernel
theorem dX3_near_10 : decode cX3_near 10 = .ok (.goto 4, 3) := by decide +kernel
theorem dX3_near_13 : decode cX3_near 13 = .ok (.iconst 1, 1) := by decide +kernel
theorem dX3_near_14 : decode cX3_near 14 = .ok (.putfield 29, 3) := by decide +kernel
theorem dX3_near_17 : decode cX3_near 17 = .ok (.aload_n 0, 1) := by decide +kernel
theorem dX3_near_18 : decode cX3_near 18 = .ok (.getfield 29, 3) := by decide +kernel
theorem dX3_near_21 : decode cX3_near 21 = .ok (.ifCond .le 5, 3) := by decide +kernel
theorem dX3_near_24 : decode cX3_near 24 = .ok (.iconst 0, 1) := by decide +kernel
theorem dX3_near_25 : decode cX3_near 25 = .ok (.ireturn, 1) := by decide +kernel
theorem dX3_near_26 : decode cX3_near 26 = .ok (.iload_n 3, 1) := by decide +kernel
theorem dX3_near_27 : decode cX3_near 27 = .ok (.ifCond .eq 12, 3) := by decide +kernel
theorem dX3_near_30 : decode cX3_near 30 = .ok (.aload_n 0, 1) := by decide +kernel
theorem dX3_near_31 : decode cX3_near 31 = .ok (.iload_n 1, 1) := by decide +kernel
theorem dX3_near_32 : decode cX3_near 32 = .ok (.iload_n 2, 1) := by decide +kernel
theorem dX3_near_33 : decode cX3_near 33 = .ok (.invokevirtual 33, 3) := by decide +kernel
theorem dX3_near_36 : decode cX3_near 36 = .ok (.goto 11, 3) := by decide +kernel
theorem dX3_near_39 : decode cX3_near 39 = .ok (.aload_n 0, 1) := by decide +kernel
theorem dX3_near_40 : decode cX3_near 40 = .ok (.iload_n 1, 1) := by decide +kernel
theorem dX3_near_41 : decode cX3_near 41 = .ok (.iload_n 2, 1) := by decide +kernel
theorem dX3_near_42 : decode cX3_near 42 = .ok (.invokevirtual 54, 3) := by decide +kernel
theorem dX3_near_45 : decode cX3_near 45 = .ok (.iconst 1, 1) := by decide +kernel
theorem dX3_near_46 : decode cX3_near 46 = .ok (.isub, 1) := by decide +kernel
theorem dX3_near_47 : decode cX3_near 47 = .ok (.istore 4, 2) := by decide +kernel
theorem dX3_near_49 : decode cX3_near 49 = .ok (.aload_n 0, 1) := by decide +kernel
theorem dX3_near_50 : decode cX3_near 50 = .ok (.iload 4, 2) := by decide +kernel
theorem dX3_near_52 : decode cX3_near 52 = .ok (.ifCond .lt 14, 3) := by decide +kernel
theorem dX3_near_55 : decode cX3_near 55 = .ok (.iload 4, 2) := by decide +kernel
theorem dX3_near_57 : decode cX3_near 57 = .ok (.aload_n 0, 1) := by decide +kernel
theorem dX3_near_58 : decode cX3_near 58 = .ok (.getfield 16, 3) := by decide +kernel
theorem dX3_near_61 : decode cX3_near 61 = .ok (.iload_n 1, 1) := by decide +kernel
theorem dX3_near_62 : decode cX3_near 62 = .ok (.iaload, 1) := by decide +kernel
theorem dX3_near_63 : decode cX3_near 63 = .ok (.if_icmp .lt 7, 3) := by decide +kernel
theorem dX3_near_66 : decode cX3_near 66 = .ok (.iconst 2, 1) := by decide +kernel
theorem dX3_near_67 : decode cX3_near 67 = .ok (.goto 4, 3) := by decide +kernel
theorem dX3_near_70 : decode cX3_near 70 = .ok (.iconst 0, 1) := by decide +kernel
theorem dX3_near_71 : decode cX3_near 71 = .ok (.putfield 29, 3) := by decide +kernel
theorem dX3_near_74 : decode cX3_near 74 = .ok (.aload_n 0, 1) := by decide +kernel
theorem dX3_near_75 : decode cX3_near 75 = .ok (.getfield 29, 3) := by decide +kernel
theorem dX3_near_78 : decode cX3_near 78 = .ok (.ifCond .le 7, 3) := by decide +kernel
theorem dX3_near_81 : decode cX3_near 81 = .ok (.iconst 0, 1) := by decide +kernel
theorem dX3_near_82 : decode cX3_near 82 = .ok (.goto 16, 3) := by decide +kernel
theorem dX3_near_85 : decode cX3_near 85 = .ok (.aload_n 0, 1) := by decide +kernel
theorem dX3_near_86 : decode cX3_near 86 = .ok (.getfield 7, 3) := by decide +kernel
theorem dX3_near_89 : decode cX3_near 89 = .ok (.sipush 600, 3) := by decide +kernel
theorem dX3_near_92 : decode cX3_near 92 = .ok (.iload_n 1, 1) := by decide +kernel
theorem dX3_near_93 : decode cX3_near 93 = .ok (.imul, 1) := by decide +kernel
theorem dX3_near_94 : decode cX3_near 94 = .ok (.iload 4, 2) := by decide +kernel
theorem dX3_near_96 : decode cX3_near 96 = .ok (.iadd, 1) := by decide +kernel
theorem dX3_near_97 : decode cX3_near 97 = .ok (.iaload, 1) := by decide +kernel
theorem dX3_near_98 : decode cX3_near 98 = .ok (.ireturn, 1) := by decide +kernel
set_option maxRecDepth 20000 in
theorem ggX3_sum_X3_isVersion : GoodIn wsX3_sum wsX3_isVersion := goodIn_r _ [9, 10, 11, 12, 13, 14, 15, 16, 17] (by decide +kernel) (by decide +kernel)
set_option maxRecDepth 20000 in
theorem gX3_sum_X3_isVersion : GoodIn wsX3_sum (wsV RX3 41 RX3 yX3_isVersion wsX3_isVersion) := goodIn_app (goodIn_of _ (by decide +kernel)) ggX3_sum_X3_isVersion
theorem dX3_sum_0 : decode cX3_sum 0 = .ok (.aload_n 0, 1) := by decide +kernel
theorem dX3_sum_1 : decode cX3_sum 1 = .ok (.aload_n 0, 1) := by decide +kernel
theorem dX3_sum_2 : decode cX3_sum 2 = .ok (.iload_n 1, 1) := by decide +kernel
theorem dX3_sum_3 : decode cX3_sum 3 = .ok (.invokevirtual 41, 3) := by decide +kernel
theorem dX3_sum_6 : decode cX3_sum 6 = .ok (.ifCond .eq 7, 3) := by decide +kernel
theorem dX3_sum_9 : decode cX3_sum 9 = .ok (.iconst 0, 1) := by decide +kernel
theorem dX3_sum_10 : decode cX3_sum 10 = .ok (.goto 4, 3) := by decide +kernel
theorem dX3_sum_13 : decode cX3_sum 13 = .ok (.iconst 1, 1) := by decide +kernel
theorem dX3_sum_14 : decode cX3_sum 14 = .ok (.putfield 29, 3) := by decide +kernel
theorem dX3_sum_17 : decode cX3_sum 17 = .ok (.lconst 0, 1) := by decide +kernel
theorem dX3_sum_18 : decode cX3_sum 18 = .ok (.lstore 4, 2) := by decide +kernel
theorem dX3_sum_20 : decode cX3_sum 20 = .ok (.iconst 0, 1) := by decide +kernel
theorem dX3_sum_21 : decode cX3_sum 21 = .ok (.istore 6, 2) := by decide +kernel
theorem dX3_sum_23 : decode cX3_sum 23 = .ok (.aload_n 0, 1) := by decide +kernel
theorem dX3_sum_24 : decode cX3_sum 24 = .ok (.getfield 29, 3) := by decide +kernel
theorem dX3_sum_27 : decode cX3_sum 27 = .ok (.ifCond .ne 70, 3) := by decide +kernel
theorem dX3_sum_30 : decode cX3_sum 30 = .ok (.iload 6, 2) := by decide +kernel
theorem dX3_sum_32 : decode cX3_sum 32 = .ok (.aload_n 0, 1) := by decide +kernel
theorem dX3_sum_33 : decode cX3_sum 33 = .ok (.getfield 16, 3) := by decide +kernel
theorem dX3_sum_36 : decode cX3_sum 36 = .ok (.iload_n 1, 1) := by decide +kernel
theorem dX3_sum_37 : decode cX3_sum 37 = .ok (.iaload, 1) := by decide +kernel
theorem dX3_sum_38 : decode cX3_sum 38 = .ok (.if_icmp .ge 59, 3) := by decide +kernel
theorem dX3_sum_41 : decode cX3_sum 41 = .ok (.aload_n 0, 1) := by decide +kernel
theorem dX3_sum_42 : decode cX3_sum 42 = .ok (.getfield 7, 3) := by decide +kernel
theorem dX3_sum_45 : decode cX3_sum 45 = .ok (.sipush 600, 3) := by decide +kernel
theorem dX3_sum_48 : decode cX3_sum 48 = .ok (.iload_n 1, 1) := by decide +kernel
theorem dX3_sum_49 : decode cX3_sum 49 = .ok (.imul, 1) := by decide +kernel
theorem dX3_sum_50 : decode cX3_sum 50 = .ok (.iload 6, 2) := by decide +kernel
theorem dX3_sum_52 : decode cX3_sum 52 = .ok (.iadd, 1) := by decide +kernel
theorem dX3_sum_53 : decode cX3_sum 53 = .ok (.iaload, 1) := by decide +kernel
theorem dX3_sum_54 : decode cX3_sum 54 = .ok (.istore 7, 2) := by decide +kernel
theorem dX3_sum_56 : decode cX3_sum 56 = .ok (.lload 4, 2) := by decide +kernel
theorem dX3_sum_58 : decode cX3_sum 58 = .ok (.iload 7, 2) := by decide +kernel
theorem dX3_sum_60 : decode cX3_sum 60 = .ok (.iload_n 2, 1) := by decide +kernel
theorem dX3_sum_61 : decode cX3_sum 61 = .ok (.if_icmp .lt 26, 3) := by decide +kernel
theorem dX3_sum_64 : decode cX3_sum 64 = .ok (.iload 7, 2) := by decide +kernel
theorem dX3_sum_66 : decode cX3_sum 66 = .ok (.iload_n 3, 1) := by decide +kernel
theorem dX3_sum_67 : decode cX3_sum 67 = .ok (.if_icmp .gt 20, 3) := by decide +kernel
theorem dX3_sum_70 : decode cX3_sum 70 = .ok (.aload_n 0, 1) := by decide +kernel
theorem dX3_sum_71 : decode cX3_sum 71 = .ok (.getfield 13, 3) := by decide +kernel
theorem dX3_sum_74 : decode cX3_sum 74 = .ok (.sipush 600, 3) := by decide +kernel
theorem dX3_sum_77 : decode cX3_sum 77 = .ok (.iload_n 1, 1) := by decide +kernel
theorem dX3_sum_78 : decode cX3_sum 78 = .ok (.imul, 1) := by decide +kernel
theorem dX3_sum_79 : decode cX3_sum 79 = .ok (.iload 6, 2) := by decide +kernel
theorem dX3_sum_81 : decode cX3_sum 81 = .ok (.iadd, 1) := by decide +kernel
theorem dX3_sum_82 : decode cX3_sum 82 = .ok (.iaload, 1) := by decide +kernel
theorem dX3_sum_83 : decode cX3_sum 83 = .ok (.i2l, 1) := by decide +kernel
theorem dX3_sum_84 : decode cX3_sum 84 = .ok (.goto 4, 3) := by decide +kernel
theorem dX3_sum_87 : decode cX3_sum 87 = .ok (.lconst 0, 1) := by decide +kernel
theorem dX3_sum_88 : decode cX3_sum 88 = .ok (.ladd, 1) := by decide +kernel
theorem dX3_sum_89 : decode cX3_sum 89 = .ok (.lstore 4, 2) := by decide +kernel
theorem dX3_sum_91 : decode cX3_sum 91 = .ok (.iinc 6 1, 3) := by decide +kernel
theorem dX3_sum_94 : decode cX3_sum 94 = .ok (.goto (-71), 3) := by decide +kernel
theorem dX3_sum_97 : decode cX3_sum 97 = .ok (.lload 4, 2) := by decide +kernel
theorem dX3_sum_99 : decode cX3_sum 99 = .ok (.lreturn, 1) := by decide +kernel
set_option maxRecDepth 20000 in
theorem ggX3_greatest_X3_isVersion : GoodIn wsX3_greatest wsX3_isVersion := goodIn_r _ [10, 11, 28, 29, 30, 31, 32, 33, 34] (by decide +kernel) (by decide +kernel)
set_option maxRecDepth 20000 in
theorem gX3_greatest_X3_isVersion : GoodIn wsX3_greatest (wsV RX3 41 RX3 yX3_isVersion wsX3_isVersion) := goodIn_app (goodIn_of _ (by decide +kernel)) ggX3_greatest_X3_isVersion
set_option maxRecDepth 20000 in
theorem ggX3_greatest_X3_many : GoodIn wsX3_greatest wsX3_many := goodIn_r _ [15, 16, 17, 18, 9, 19, 20, 21, 22, 23, 3, 4, 24, 25, 26, 27, 28, 29, 30, 31, 32, 33, 34] (by decide +kernel) (by decide +kernel)
set_option maxRecDepth 20000 in
theorem gX3_greatest_X3_many : GoodIn wsX3_greatest (wsV RX3 57 RX3 yX3_many wsX3_many) := goodIn_app (goodIn_of _ (by decide +kernel)) ggX3_greatest_X3_many
theorem dX3_greatest_0 : decode cX3_greatest 0 = .ok (.aload_n 0, 1) := by decide +kernel
theorem dX3_greatest_1 : decode cX3_greatest 1 = .ok (.aload_n 0, 1) := by decide +kernel
theorem dX3_greatest_2 : decode cX3_greatest 2 = .ok (.iload_n 1, 1) := by decide +kernel
theorem dX3_greatest_3 : decode cX3_greatest 3 = .ok (.invokevirtual 41, 3) := by decide +kernel
theorem dX3_greatest_6 : decode cX3_greatest 6 = .ok (.ifCond .eq 7, 3) := by decide +kernel
theorem dX3_greatest_9 : decode cX3_greatest 9 = .ok (.iconst 0, 1) := by decide +kernel
theorem dX3_greatest_10 : decode cX3_greatest 10 = .ok (.goto 4, 3) := by decide +kernel
theorem dX3_greatest_13 : decode cX3_greatest 13 = .ok (.iconst 1, 1) := by decide +kernel
theorem dX3_greatest_14 : decode cX3_greatest 14 = .ok (.putfield 29, 3) := by decide +kernel
theorem dX3_greatest_17 : decode cX3_greatest 17 = .ok (.aload_n 0, 1) := by decide +kernel
theorem dX3_greatest_18 : decode cX3_greatest 18 = .ok (.aload_n 0, 1) := by decide +kernel
theorem dX3_greatest_19 : decode cX3_greatest 19 = .ok (.getfield 29, 3) := by decide +kernel
theorem dX3_greatest_22 : decode cX3_greatest 22 = .ok (.ifCond .ne 17, 3) := by decide +kernel
theorem dX3_greatest_25 : decode cX3_greatest 25 = .ok (.aload_n 0, 1) := by decide +kernel
theorem dX3_greatest_26 : decode cX3_greatest 26 = .ok (.iload_n 1, 1) := by decide +kernel
theorem dX3_greatest_27 : decode cX3_greatest 27 = .ok (.iload_n 2, 1) := by decide +kernel
theorem dX3_greatest_28 : decode cX3_greatest 28 = .ok (.iload_n 3, 1) := by decide +kernel
theorem dX3_greatest_29 : decode cX3_greatest 29 = .ok (.invokevirtual 57, 3) := by decide +kernel
theorem dX3_greatest_32 : decode cX3_greatest 32 = .ok (.ifCond .ne 7, 3) := by decide +kernel
theorem dX3_greatest_35 : decode cX3_greatest 35 = .ok (.iconst 2, 1) := by decide +kernel
theorem dX3_greatest_36 : decode cX3_greatest 36 = .ok (.goto 7, 3) := by decide +kernel
theorem dX3_greatest_39 : decode cX3_greatest 39 = .ok (.aload_n 0, 1) := by decide +kernel
theorem dX3_greatest_40 : decode cX3_greatest 40 = .ok (.getfield 29, 3) := by decide +kernel
theorem dX3_greatest_43 : decode cX3_greatest 43 = .ok (.putfield 29, 3) := by decide +kernel
theorem dX3_greatest_46 : decode cX3_greatest 46 = .ok (.aload_n 0, 1) := by decide +kernel
theorem dX3_greatest_47 : decode cX3_greatest 47 = .ok (.getfield 29, 3) := by decide +kernel
theorem dX3_greatest_50 : decode cX3_greatest 50 = .ok (.ifCond .le 5, 3) := by decide +kernel
theorem dX3_greatest_53 : decode cX3_greatest 53 = .ok (.iconst 0, 1) := by decide +kernel
theorem dX3_greatest_54 : decode cX3_greatest 54 = .ok (.ireturn, 1) := by decide +kernel
theorem dX3_greatest_55 : decode cX3_greatest 55 = .ok (.ldc 70, 2) := by decide +kernel
theorem dX3_greatest_57 : decode cX3_greatest 57 = .ok (.istore 4, 2) := by decide +kernel
theorem dX3_greatest_59 : decode cX3_greatest 59 = .ok (.iconst 0, 1) := by decide +kernel
theorem dX3_greatest_60 : decode cX3_greatest 60 = .ok (.istore 5, 2) := by decide +kernel
theorem dX3_greatest_62 : decode cX3_greatest 62 = .ok (.iload 5, 2) := by decide +kernel
theorem dX3_greatest_64 : decode cX3_greatest 64 = .ok (.aload_n 0, 1) := by decide +kernel
theorem dX3_greatest_65 : decode cX3_greatest 65 = .ok (.getfield 16, 3) := by decide +kernel
theorem dX3_greatest_68 : decode cX3_greatest 68 = .ok (.iload_n 1, 1) := by decide +kernel
theorem dX3_greatest_69 : decode cX3_greatest 69 = .ok (.iaload, 1) := by decide +kernel
theorem dX3_greatest_70 : decode cX3_greatest 70 = .ok (.if_icmp .ge 67, 3) := by decide +kernel
theorem dX3_greatest_73 : decode cX3_greatest 73 = .ok (.aload_n 0, 1) := by decide +kernel
theorem dX3_greatest_74 : decode cX3_greatest 74 = .ok (.getfield 7, 3) := by decide +kernel
theorem dX3_greatest_77 : decode cX3_greatest 77 = .ok (.sipush 600, 3) := by decide +kernel
theorem dX3_greatest_80 : decode cX3_greatest 80 = .ok (.iload_n 1, 1) := by decide +kernel
theorem dX3_greatest_81 : decode cX3_greatest 81 = .ok (.imul, 1) := by decide +kernel
theorem dX3_greatest_82 : decode cX3_greatest 82 = .ok (.iload 5, 2) := by decide +kernel
theorem dX3_greatest_84 : decode cX3_greatest 84 = .ok (.iadd, 1) := by decide +kernel
theorem dX3_greatest_85 : decode cX3_greatest 85 = .ok (.iaload, 1) := by decide +kernel
theorem dX3_greatest_86 : decode cX3_greatest 86 = .ok (.istore 6, 2) := by decide +kernel
theorem dX3_greatest_88 : decode cX3_greatest 88 = .ok (.aload_n 0, 1) := by decide +kernel
theorem dX3_greatest_89 : decode cX3_greatest 89 = .ok (.getfield 13, 3) := by decide +kernel
theorem dX3_greatest_92 : decode cX3_greatest 92 = .ok (.sipush 600, 3) := by decide +kernel
theorem dX3_greatest_95 : decode cX3_greatest 95 = .ok (.iload_n 1, 1) := by decide +kernel
theorem dX3_greatest_96 : decode cX3_greatest 96 = .ok (.imul, 1) := by decide +kernel
theorem dX3_greatest_97 : decode cX3_greatest 97 = .ok (.iload 5, 2) := by decide +kernel
theorem dX3_greatest_99 : decode cX3_greatest 99 = .ok (.iadd, 1) := by decide +kernel
theorem dX3_greatest_100 : decode cX3_greatest 100 = .ok (.iaload, 1) := by decide +kernel
theorem dX3_greatest_101 : decode cX3_greatest 101 = .ok (.istore 7, 2) := by decide +kernel
theorem dX3_greatest_103 : decode cX3_greatest 103 = .ok (.iload 6, 2) := by decide +kernel
theorem dX3_greatest_105 : decode cX3_greatest 105 = .ok (.iload_n 2, 1) := by decide +kernel
theorem dX3_greatest_106 : decode cX3_greatest 106 = .ok (.if_icmp .lt 21, 3) := by decide +kernel
theorem dX3_greatest_109 : decode cX3_greatest 109 = .ok (.iload 6, 2) := by decide +kernel
theorem dX3_greatest_111 : decode cX3_greatest 111 = .ok (.iload_n 3, 1) := by decide +kernel
theorem dX3_greatest_112 : decode cX3_greatest 112 = .ok (.if_icmp .gt 15, 3) := by decide +kernel
theorem dX3_greatest_115 : decode cX3_greatest 115 = .ok (.iload 7, 2) := by decide +kernel
theorem dX3_greatest_117 : decode cX3_greatest 117 = .ok (.iload 4, 2) := by decide +kernel
theorem dX3_greatest_119 : decode cX3_greatest 119 = .ok (.if_icmp .le 8, 3) := by decide +kernel
theorem dX3_greatest_122 : decode cX3_greatest 122 = .ok (.iload 7, 2) := by decide +kernel
theorem dX3_greatest_124 : decode cX3_greatest 124 = .ok (.goto 5, 3) := by decide +kernel
theorem dX3_greatest_127 : decode cX3_greatest 127 = .ok (.iload 4, 2) := by decide +kernel
theorem dX3_greatest_129 : decode cX3_greatest 129 = .ok (.istore 4, 2) := by decide +kernel
theorem dX3_greatest_131 : decode cX3_greatest 131 = .ok (.iinc 5 1, 3) := by decide +kernel
theorem dX3_greatest_134 : decode cX3_greatest 134 = .ok (.goto (-72), 3) := by decide +kernel
theorem dX3_greatest_137 : decode cX3_greatest 137 = .ok (.iload 4, 2) := by decide +kernel
theorem dX3_greatest_139 : decode cX3_greatest 139 = .ok (.ireturn, 1) := by decide +kernel
set_option maxRecDepth 20000 in
theorem ggX3_isOther_X3_has : GoodIn wsX3_isOther wsX3_has := goodIn_r _ [7, 8, 1, 9, 10, 11, 6, 12, 13, 14, 15, 16, 17, 18, 19] (by decide +kernel) (by decide +kernel)
set_option maxRecDepth 20000 in
theorem gX3_isOther_X3_has : GoodIn wsX3_isOther (wsV RX3 37 RX3 yX3_has wsX3_has) := goodIn_app (goodIn_of _ (by decide +kernel)) ggX3_isOther_X3_has
set_option maxRecDepth 20000 in
theorem ggX3_isOther_X3_below : GoodIn wsX3_isOther wsX3_below := goodIn_r _ [12, 8, 1, 13, 14, 15, 16, 17, 18, 19] (by decide +kernel) (by decide +kernel)
set_option maxRecDepth 20000 in
theorem gX3_isOther_X3_below : GoodIn wsX3_isOther (wsV RX3 33 RX3 yX3_below wsX3_below) := goodIn_app (goodIn_of _ (by decide +kernel)) ggX3_isOther_X3_below
theorem dX3_isOther_0 : decode cX3_isOther 0 = .ok (.aload_n 0, 1) := by decide +kernel
theorem dX3_isOther_1 : decode cX3_isOther 1 = .ok (.getfield 7, 3) := by decide +kernel
theorem dX3_isOther_4 : decode cX3_isOther 4 = .ok (.sipush 600, 3) := by decide +kernel
theorem dX3_isOther_7 : decode cX3_isOther 7 = .ok (.iload_n 1, 1) := by decide +kernel
theorem dX3_isOther_8 : decode cX3_isOther 8 = .ok (.imul, 1) := by decide +kernel
theorem dX3_isOther_9 : decode cX3_isOther 9 = .ok (.iload_n 2, 1) := by decide +kernel
theorem dX3_isOther_10 : decode cX3_isOther 10 = .ok (.iadd, 1) := by decide +kernel
theorem dX3_isOther_11 : decode cX3_isOther 11 = .ok (.iaload, 1) := by decide +kernel
theorem dX3_isOther_12 : decode cX3_isOther 12 = .ok (.istore 4, 2) := by decide +kernel
theorem dX3_isOther_14 : decode cX3_isOther 14 = .ok (.aload_n 0, 1) := by decide +kernel
theorem dX3_isOther_15 : decode cX3_isOther 15 = .ok (.iload_n 3, 1) := by decide +kernel
theorem dX3_isOther_16 : decode cX3_isOther 16 = .ok (.iload 4, 2) := by decide +kernel
theorem dX3_isOther_18 : decode cX3_isOther 18 = .ok (.invokevirtual 37, 3) := by decide +kernel
theorem dX3_isOther_21 : decode cX3_isOther 21 = .ok (.ifCond .eq 36, 3) := by decide +kernel
theorem dX3_isOther_24 : decode cX3_isOther 24 = .ok (.aload_n 0, 1) := by decide +kernel
theorem dX3_isOther_25 : decode cX3_isOther 25 = .ok (.getfield 13, 3) := by decide +kernel
theorem dX3_isOther_28 : decode cX3_isOther 28 = .ok (.sipush 600, 3) := by decide +kernel
theorem dX3_isOther_31 : decode cX3_isOther 31 = .ok (.iload_n 3, 1) := by decide +kernel
theorem dX3_isOther_32 : decode cX3_isOther 32 = .ok (.imul, 1) := by decide +kernel
theorem dX3_isOther_33 : decode cX3_isOther 33 = .ok (.aload_n 0, 1) := by decide +kernel
theorem dX3_isOther_34 : decode cX3_isOther 34 = .ok (.iload_n 3, 1) := by decide +kernel
theorem dX3_isOther_35 : decode cX3_isOther 35 = .ok (.iload 4, 2) := by decide +kernel
theorem dX3_isOther_37 : decode cX3_isOther 37 = .ok (.invokevirtual 33, 3) := by decide +kernel
theorem dX3_isOther_40 : decode cX3_isOther 40 = .ok (.iadd, 1) := by decide +kernel
theorem dX3_isOther_41 : decode cX3_isOther 41 = .ok (.iaload, 1) := by decide +kernel
theorem dX3_isOther_42 : decode cX3_isOther 42 = .ok (.aload_n 0, 1) := by decide +kernel
theorem dX3_isOther_43 : decode cX3_isOther 43 = .ok (.getfield 13, 3) := by decide +kernel
theorem dX3_isOther_46 : decode cX3_isOther 46 = .ok (.sipush 600, 3) := by decide +kernel
theorem dX3_isOther_49 : decode cX3_isOther 49 = .ok (.iload_n 1, 1) := by decide +kernel
theorem dX3_isOther_50 : decode cX3_isOther 50 = .ok (.imul, 1) := by decide +kernel
theorem dX3_isOther_51 : decode cX3_isOther 51 = .ok (.iload_n 2, 1) := by decide +kernel
theorem dX3_isOther_52 : decode cX3_isOther 52 = .ok (.iadd, 1) := by decide +kernel
theorem dX3_isOther_53 : decode cX3_isOther 53 = .ok (.iaload, 1) := by decide +kernel
theorem dX3_isOther_54 : decode cX3_isOther 54 = .ok (.if_icmp .eq 7, 3) := by decide +kernel
theorem dX3_isOther_57 : decode cX3_isOther 57 = .ok (.iconst 1, 1) := by decide +kernel
theorem dX3_isOther_58 : decode cX3_isOther 58 = .ok (.goto 4, 3) := by decide +kernel
theorem dX3_isOther_61 : decode cX3_isOther 61 = .ok (.iconst 0, 1) := by decide +kernel
theorem dX3_isOther_62 : decode cX3_isOther 62 = .ok (.ireturn, 1) := by decide +kernel
set_option maxRecDepth 20000 in
theorem ggX3_differs_X3_isVersion : GoodIn wsX3_differs wsX3_isVersion := goodIn_r _ [8, 9, 23, 24, 25, 26, 27, 28, 29] (by decide +kernel) (by decide +kernel)
set_option maxRecDepth 20000 in
theorem gX3_differs_X3_isVersion : GoodIn wsX3_differs (wsV RX3 41 RX3 yX3_isVersion wsX3_isVersion) := goodIn_app (goodIn_of _ (by decide +kernel)) ggX3_differs_X3_isVersion
set_option maxRecDepth 20000 in
theorem ggX3_differs_X3_isOther : GoodIn wsX3_differs wsX3_isOther := goodIn_r _ [13, 3, 14, 15, 16, 17, 7, 18, 2, 19, 20, 21, 22, 23, 24, 25, 26, 27, 28, 29] (by decide +kernel) (by decide +kernel)
set_option maxRecDepth 20000 in
theorem gX3_differs_X3_isOther : GoodIn wsX3_differs (wsV RX3 71 RX3 yX3_isOther wsX3_isOther) := goodIn_app (goodIn_of _ (by decide +kernel)) ggX3_differs_X3_isOther
set_option maxRecDepth 20000 in
theorem ggX3_differs_X3_has : GoodIn wsX3_differs wsX3_has := goodIn_r _ [18, 2, 3, 19, 20, 21, 7, 22, 23, 24, 25, 26, 27, 28, 29] (by decide +kernel) (by decide +kernel)
set_option maxRecDepth 20000 in
theorem gX3_differs_X3_has : GoodIn wsX3_differs (wsV RX3 37 RX3 yX3_has wsX3_has) := goodIn_app (goodIn_of _ (by decide +kernel)) ggX3_differs_X3_has
theorem dX3_differs_0 : decode cX3_differs 0 = .ok (.aload_n 0, 1) := by decide +kernel
theorem dX3_differs_1 : decode cX3_differs 1 = .ok (.aload_n 0, 1) := by decide +kernel
theorem dX3_differs_2 : decode cX3_differs 2 = .ok (.iload_n 1, 1) := by decide +kernel
theorem dX3_differs_3 : decode cX3_differs 3 = .ok (.invokevirtual 41, 3) := by decide +kernel
theorem dX3_differs_6 : decode cX3_differs 6 = .ok (.ifCond .eq 15, 3) := by decide +kernel
theorem dX3_differs_9 : decode cX3_differs 9 = .ok (.aload_n 0, 1) := by decide +kernel
theorem dX3_differs_10 : decode cX3_differs 10 = .ok (.iload_n 2, 1) := by decide +kernel
theorem dX3_differs_11 : decode cX3_differs 11 = .ok (.invokevirtual 41, 3) := by decide +kernel
theorem dX3_differs_14 : decode cX3_differs 14 = .ok (.ifCond .eq 7, 3) := by decide +kernel
theorem dX3_differs_17 : decode cX3_differs 17 = .ok (.iconst 0, 1) := by decide +kernel
theorem dX3_differs_18 : decode cX3_differs 18 = .ok (.goto 4, 3) := by decide +kernel
theorem dX3_differs_21 : decode cX3_differs 21 = .ok (.iconst 1, 1) := by decide +kernel
theorem dX3_differs_22 : decode cX3_differs 22 = .ok (.putfield 29, 3) := by decide +kernel
theorem dX3_differs_25 : decode cX3_differs 25 = .ok (.aload_n 0, 1) := by decide +kernel
theorem dX3_differs_26 : decode cX3_differs 26 = .ok (.getfield 29, 3) := by decide +kernel
theorem dX3_differs_29 : decode cX3_differs 29 = .ok (.ifCond .le 5, 3) := by decide +kernel
theorem dX3_differs_32 : decode cX3_differs 32 = .ok (.iconst 0, 1) := by decide +kernel
theorem dX3_differs_33 : decode cX3_differs 33 = .ok (.ireturn, 1) := by decide +kernel
theorem dX3_differs_34 : decode cX3_differs 34 = .ok (.iconst 0, 1) := by decide +kernel
theorem dX3_differs_35 : decode cX3_differs 35 = .ok (.istore_n 3, 1) := by decide +kernel
theorem dX3_differs_36 : decode cX3_differs 36 = .ok (.iconst 0, 1) := by decide +kernel
theorem dX3_differs_37 : decode cX3_differs 37 = .ok (.istore 4, 2) := by decide +kernel
theorem dX3_differs_39 : decode cX3_differs 39 = .ok (.iload 4, 2) := by decide +kernel
theorem dX3_differs_41 : decode cX3_differs 41 = .ok (.aload_n 0, 1) := by decide +kernel
theorem dX3_differs_42 : decode cX3_differs 42 = .ok (.getfield 16, 3) := by decide +kernel
theorem dX3_differs_45 : decode cX3_differs 45 = .ok (.iload_n 1, 1) := by decide +kernel
theorem dX3_differs_46 : decode cX3_differs 46 = .ok (.iaload, 1) := by decide +kernel
theorem dX3_differs_47 : decode cX3_differs 47 = .ok (.if_icmp .ge 28, 3) := by decide +kernel
theorem dX3_differs_50 : decode cX3_differs 50 = .ok (.iload_n 3, 1) := by decide +kernel
theorem dX3_differs_51 : decode cX3_differs 51 = .ok (.aload_n 0, 1) := by decide +kernel
theorem dX3_differs_52 : decode cX3_differs 52 = .ok (.iload_n 1, 1) := by decide +kernel
theorem dX3_differs_53 : decode cX3_differs 53 = .ok (.iload 4, 2) := by decide +kernel
theorem dX3_differs_55 : decode cX3_differs 55 = .ok (.iload_n 2, 1) := by decide +kernel
theorem dX3_differs_56 : decode cX3_differs 56 = .ok (.invokevirtual 71, 3) := by decide +kernel
theorem dX3_differs_59 : decode cX3_differs 59 = .ok (.ifCond .eq 7, 3) := by decide +kernel
theorem dX3_differs_62 : decode cX3_differs 62 = .ok (.iconst 1, 1) := by decide +kernel
theorem dX3_differs_63 : decode cX3_differs 63 = .ok (.goto 4, 3) := by decide +kernel
theorem dX3_differs_66 : decode cX3_differs 66 = .ok (.iconst 0, 1) := by decide +kernel
theorem dX3_differs_67 : decode cX3_differs 67 = .ok (.iadd, 1) := by decide +kernel
theorem dX3_differs_68 : decode cX3_differs 68 = .ok (.istore_n 3, 1) := by decide +kernel
theorem dX3_differs_69 : decode cX3_differs 69 = .ok (.iinc 4 1, 3) := by decide +kernel
theorem dX3_differs_72 : decode cX3_differs 72 = .ok (.goto (-33), 3) := by decide +kernel
theorem dX3_differs_75 : decode cX3_differs 75 = .ok (.iconst 0, 1) := by decide +kernel
theorem dX3_differs_76 : decode cX3_differs 76 = .ok (.istore 4, 2) := by decide +kernel
theorem dX3_differs_78 : decode cX3_differs 78 = .ok (.iload 4, 2) := by decide +kernel
theorem dX3_differs_80 : decode cX3_differs 80 = .ok (.aload_n 0, 1) := by decide +kernel
theorem dX3_differs_81 : decode cX3_differs 81 = .ok (.getfield 16, 3) := by decide +kernel
theorem dX3_differs_84 : decode cX3_differs 84 = .ok (.iload_n 2, 1) := by decide +kernel
theorem dX3_differs_85 : decode cX3_differs 85 = .ok (.iaload, 1) := by decide +kernel
theorem dX3_differs_86 : decode cX3_differs 86 = .ok (.if_icmp .ge 38, 3) := by decide +kernel
theorem dX3_differs_89 : decode cX3_differs 89 = .ok (.iload_n 3, 1) := by decide +kernel
theorem dX3_differs_90 : decode cX3_differs 90 = .ok (.aload_n 0, 1) := by decide +kernel
theorem dX3_differs_91 : decode cX3_differs 91 = .ok (.iload_n 1, 1) := by decide +kernel
theorem dX3_differs_92 : decode cX3_differs 92 = .ok (.aload_n 0, 1) := by decide +kernel
theorem dX3_differs_93 : decode cX3_differs 93 = .ok (.getfield 7, 3) := by decide +kernel
theorem dX3_differs_96 : decode cX3_differs 96 = .ok (.sipush 600, 3) := by decide +kernel
theorem dX3_differs_99 : decode cX3_differs 99 = .ok (.iload_n 2, 1) := by decide +kernel
theorem dX3_differs_100 : decode cX3_differs 100 = .ok (.imul, 1) := by decide +kernel
theorem dX3_differs_101 : decode cX3_differs 101 = .ok (.iload 4, 2) := by decide +kernel
theorem dX3_differs_103 : decode cX3_differs 103 = .ok (.iadd, 1) := by decide +kernel
theorem dX3_differs_104 : decode cX3_differs 104 = .ok (.iaload, 1) := by decide +kernel
theorem dX3_differs_105 : decode cX3_differs 105 = .ok (.invokevirtual 37, 3) := by decide +kernel
theorem dX3_differs_108 : decode cX3_differs 108 = .ok (.ifCond .eq 7, 3) := by decide +kernel
theorem dX3_differs_111 : decode cX3_differs 111 = .ok (.iconst 0, 1) := by decide +kernel
theorem dX3_differs_112 : decode cX3_differs 112 = .ok (.goto 4, 3) := by decide +kernel
theorem dX3_differs_115 : decode cX3_differs 115 = .ok (.iconst 1, 1) := by decide +kernel
theorem dX3_differs_116 : decode cX3_differs 116 = .ok (.iadd, 1) := by decide +kernel
theorem dX3_differs_117 : decode cX3_differs 117 = .ok (.istore_n 3, 1) := by decide +kernel
theorem dX3_differs_118 : decode cX3_differs 118 = .ok (.iinc 4 1, 3) := by decide +kernel
theorem dX3_differs_121 : decode cX3_differs 121 = .ok (.goto (-43), 3) := by decide +kernel
theorem dX3_differs_124 : decode cX3_differs 124 = .ok (.iload_n 3, 1) := by decide +kernel
theorem dX3_differs_125 : decode cX3_differs 125 = .ok (.ireturn, 1) := by decide +kernel
set_option maxRecDepth 20000 in
theorem ggX3_firstOther_X3_isOther : GoodIn wsX3_firstOther wsX3_isOther := goodIn_r _ [6, 7, 8, 9, 10, 11, 5, 12, 1, 13, 14, 15, 16, 17, 18, 19, 20, 21, 22, 23] (by decide +kernel) (by decide +kernel)
set_option maxRecDepth 20000 in
theorem gX3_firstOther_X3_isOther : GoodIn wsX3_firstOther (wsV RX3 71 RX3 yX3_isOther wsX3_isOther) := goodIn_app (goodIn_of _ (by decide +kernel)) ggX3_firstOther_X3_isOther
theorem dX3_firstOther_0 : decode cX3_firstOther 0 = .ok (.iconst 0, 1) := by decide +kernel
theorem dX3_firstOther_1 : decode cX3_firstOther 1 = .ok (.istore_n 3, 1) := by decide +kernel
theorem dX3_firstOther_2 : decode cX3_firstOther 2 = .ok (.iload_n 3, 1) := by decide +kernel
theorem dX3_firstOther_3 : decode cX3_firstOther 3 = .ok (.aload_n 0, 1) := by decide +kernel
theorem dX3_firstOther_4 : decode cX3_firstOther 4 = .ok (.getfield 16, 3) := by decide +kernel
theorem dX3_firstOther_7 : decode cX3_firstOther 7 = .ok (.iload_n 1, 1) := by decide +kernel
theorem dX3_firstOther_8 : decode cX3_firstOther 8 = .ok (.iaload, 1) := by decide +kernel
theorem dX3_firstOther_9 : decode cX3_firstOther 9 = .ok (.if_icmp .ge 19, 3) := by decide +kernel
theorem dX3_firstOther_12 : decode cX3_firstOther 12 = .ok (.aload_n 0, 1) := by decide +kernel
theorem dX3_firstOther_13 : decode cX3_firstOther 13 = .ok (.iload_n 1, 1) := by decide +kernel
theorem dX3_firstOther_14 : decode cX3_firstOther 14 = .ok (.iload_n 3, 1) := by decide +kernel
theorem dX3_firstOther_15 : decode cX3_firstOther 15 = .ok (.iload_n 2, 1) := by decide +kernel
theorem dX3_firstOther_16 : decode cX3_firstOther 16 = .ok (.invokevirtual 71, 3) := by decide +kernel
theorem dX3_firstOther_19 : decode cX3_firstOther 19 = .ok (.ifCond .ne 9, 3) := by decide +kernel
theorem dX3_firstOther_22 : decode cX3_firstOther 22 = .ok (.iinc 3 1, 3) := by decide +kernel
theorem dX3_firstOther_25 : decode cX3_firstOther 25 = .ok (.goto (-23), 3) := by decide +kernel
theorem dX3_firstOther_28 : decode cX3_firstOther 28 = .ok (.iload_n 3, 1) := by decide +kernel
theorem dX3_firstOther_29 : decode cX3_firstOther 29 = .ok (.ireturn, 1) := by decide +kernel
set_option maxRecDepth 20000 in
theorem ggX3_firstDifference_X3_isVersion : GoodIn wsX3_firstDifference wsX3_isVersion := goodIn_r _ [8, 9, 27, 28, 29, 30, 31, 32, 33] (by decide +kernel) (by decide +kernel)
set_option maxRecDepth 20000 in
theorem gX3_firstDifference_X3_isVersion : GoodIn wsX3_firstDifference (wsV RX3 41 RX3 yX3_isVersion wsX3_isVersion) := goodIn_app (goodIn_of _ (by decide +kernel)) ggX3_firstDifference_X3_isVersion
set_option maxRecDepth 20000 in
theorem ggX3_firstDifference_X3_firstOther : GoodIn wsX3_firstDifference wsX3_firstOther := goodIn_r _ [13, 2, 14, 15, 16, 7, 17, 3, 18, 19, 20, 21, 22, 23, 24, 25, 26, 27, 28, 29, 30, 31, 32, 33] (by decide +kernel) (by decide +kernel)
set_option maxRecDepth 20000 in
theorem gX3_firstDifference_X3_firstOther : GoodIn wsX3_firstDifference (wsV RX3 75 RX3 yX3_firstOther wsX3_firstOther) := goodIn_app (goodIn_of _ (by decide +kernel)) ggX3_firstDifference_X3_firstOther
theorem dX3_firstDifference_0 : decode cX3_firstDifference 0 = .ok (.aload_n 0, 1) := by decide +kernel
theorem dX3_firstDifference_1 : decode cX3_firstDifference 1 = .ok (.aload_n 0, 1) := by decide +kernel
theorem dX3_firstDifference_2 : decode cX3_firstDifference 2 = .ok (.iload_n 1, 1) := by decide +kernel
theorem dX3_firstDifference_3 : decode cX3_firstDifference 3 = .ok (.invokevirtual 41, 3) := by decide +kernel
theorem dX3_firstDifference_6 : decode cX3_firstDifference 6 = .ok (.ifCond .eq 15, 3) := by decide +kernel
theorem dX3_firstDifference_9 : decode cX3_firstDifference 9 = .ok (.aload_n 0, 1) := by decide +kernel
theorem dX3_firstDifference_10 : decode cX3_firstDifference 10 = .ok (.iload_n 2, 1) := by decide +kernel
theorem dX3_firstDifference_11 : decode cX3_firstDifference 11 = .ok (.invokevirtual 41, 3) := by decide +kernel
theorem dX3_firstDifference_14 : decode cX3_firstDifference 14 = .ok (.ifCond .eq 7, 3) := by decide +kernel
theorem dX3_firstDifference_17 : decode cX3_firstDifference 17 = .ok (.iconst 0, 1) := by decide +kernel
theorem dX3_firstDifference_18 : decode cX3_firstDifference 18 = .ok (.goto 4, 3) := by decide +kernel
theorem dX3_firstDifference_21 : decode cX3_firstDifference 21 = .ok (.iconst 1, 1) := by decide +kernel
theorem dX3_firstDifference_22 : decode cX3_firstDifference 22 = .ok (.putfield 29, 3) := by decide +kernel
theorem dX3_firstDifference_25 : decode cX3_firstDifference 25 = .ok (.aload_n 0, 1) := by decide +kernel
theorem dX3_firstDifference_26 : decode cX3_firstDifference 26 = .ok (.getfield 29, 3) := by decide +kernel
theorem dX3_firstDifference_29 : decode cX3_firstDifference 29 = .ok (.ifCond .le 5, 3) := by decide +kernel
theorem dX3_firstDifference_32 : decode cX3_firstDifference 32 = .ok (.iconst 0, 1) := by decide +kernel
theorem dX3_firstDifference_33 : decode cX3_firstDifference 33 = .ok (.ireturn, 1) := by decide +kernel
theorem dX3_firstDifference_34 : decode cX3_firstDifference 34 = .ok (.aload_n 0, 1) := by decide +kernel
theorem dX3_firstDifference_35 : decode cX3_firstDifference 35 = .ok (.iload_n 1, 1) := by decide +kernel
theorem dX3_firstDifference_36 : decode cX3_firstDifference 36 = .ok (.iload_n 2, 1) := by decide +kernel
theorem dX3_firstDifference_37 : decode cX3_firstDifference 37 = .ok (.invokevirtual 75, 3) := by decide +kernel
theorem dX3_firstDifference_40 : decode cX3_firstDifference 40 = .ok (.istore_n 3, 1) := by decide +kernel
theorem dX3_firstDifference_41 : decode cX3_firstDifference 41 = .ok (.aload_n 0, 1) := by decide +kernel
theorem dX3_firstDifference_42 : decode cX3_firstDifference 42 = .ok (.iload_n 2, 1) := by decide +kernel
theorem dX3_firstDifference_43 : decode cX3_firstDifference 43 = .ok (.iload_n 1, 1) := by decide +kernel
theorem dX3_firstDifference_44 : decode cX3_firstDifference 44 = .ok (.invokevirtual 75, 3) := by decide +kernel
theorem dX3_firstDifference_47 : decode cX3_firstDifference 47 = .ok (.istore 4, 2) := by decide +kernel
theorem dX3_firstDifference_49 : decode cX3_firstDifference 49 = .ok (.iload_n 3, 1) := by decide +kernel
theorem dX3_firstDifference_50 : decode cX3_firstDifference 50 = .ok (.aload_n 0, 1) := by decide +kernel
theorem dX3_firstDifference_51 : decode cX3_firstDifference 51 = .ok (.getfield 16, 3) := by decide +kernel
theorem dX3_firstDifference_54 : decode cX3_firstDifference 54 = .ok (.iload_n 1, 1) := by decide +kernel
theorem dX3_firstDifference_55 : decode cX3_firstDifference 55 = .ok (.iaload, 1) := by decide +kernel
theorem dX3_firstDifference_56 : decode cX3_firstDifference 56 = .ok (.if_icmp .ge 7, 3) := by decide +kernel
theorem dX3_firstDifference_59 : decode cX3_firstDifference 59 = .ok (.iconst 1, 1) := by decide +kernel
theorem dX3_firstDifference_60 : decode cX3_firstDifference 60 = .ok (.goto 4, 3) := by decide +kernel
theorem dX3_firstDifference_63 : decode cX3_firstDifference 63 = .ok (.iconst 0, 1) := by decide +kernel
theorem dX3_firstDifference_64 : decode cX3_firstDifference 64 = .ok (.istore 5, 2) := by decide +kernel
theorem dX3_firstDifference_66 : decode cX3_firstDifference 66 = .ok (.iload 4, 2) := by decide +kernel
theorem dX3_firstDifference_68 : decode cX3_firstDifference 68 = .ok (.aload_n 0, 1) := by decide +kernel
theorem dX3_firstDifference_69 : decode cX3_firstDifference 69 = .ok (.getfield 16, 3) := by decide +kernel
theorem dX3_firstDifference_72 : decode cX3_firstDifference 72 = .ok (.iload_n 2, 1) := by decide +kernel
theorem dX3_firstDifference_73 : decode cX3_firstDifference 73 = .ok (.iaload, 1) := by decide +kernel
theorem dX3_firstDifference_74 : decode cX3_firstDifference 74 = .ok (.if_icmp .ge 7, 3) := by decide +kernel
theorem dX3_firstDifference_77 : decode cX3_firstDifference 77 = .ok (.iconst 1, 1) := by decide +kernel
theorem dX3_firstDifference_78 : decode cX3_firstDifference 78 = .ok (.goto 4, 3) := by decide +kernel
theorem dX3_firstDifference_81 : decode cX3_firstDifference 81 = .ok (.iconst 0, 1) := by decide +kernel
theorem dX3_firstDifference_82 : decode cX3_firstDifference 82 = .ok (.istore 6, 2) := by decide +kernel
theorem dX3_firstDifference_84 : decode cX3_firstDifference 84 = .ok (.aload_n 0, 1) := by decide +kernel
theorem dX3_firstDifference_85 : decode cX3_firstDifference 85 = .ok (.iload 5, 2) := by decide +kernel
theorem dX3_firstDifference_87 : decode cX3_firstDifference 87 = .ok (.ifCond .ne 8, 3) := by decide +kernel
theorem dX3_firstDifference_90 : decode cX3_firstDifference 90 = .ok (.iload 6, 2) := by decide +kernel
theorem dX3_firstDifference_92 : decode cX3_firstDifference 92 = .ok (.ifCond .eq 7, 3) := by decide +kernel
theorem dX3_firstDifference_95 : decode cX3_firstDifference 95 = .ok (.iconst 0, 1) := by decide +kernel
theorem dX3_firstDifference_96 : decode cX3_firstDifference 96 = .ok (.goto 4, 3) := by decide +kernel
theorem dX3_firstDifference_99 : decode cX3_firstDifference 99 = .ok (.iconst 2, 1) := by decide +kernel
theorem dX3_firstDifference_100 : decode cX3_firstDifference 100 = .ok (.putfield 29, 3) := by decide +kernel
theorem dX3_firstDifference_103 : decode cX3_firstDifference 103 = .ok (.aload_n 0, 1) := by decide +kernel
theorem dX3_firstDifference_104 : decode cX3_firstDifference 104 = .ok (.getfield 29, 3) := by decide +kernel
theorem dX3_firstDifference_107 : decode cX3_firstDifference 107 = .ok (.ifCond .le 5, 3) := by decide +kernel
theorem dX3_firstDifference_110 : decode cX3_firstDifference 110 = .ok (.iconst 0, 1) := by decide +kernel
theorem dX3_firstDifference_111 : decode cX3_firstDifference 111 = .ok (.ireturn, 1) := by decide +kernel
theorem dX3_firstDifference_112 : decode cX3_firstDifference 112 = .ok (.iload 5, 2) := by decide +kernel
theorem dX3_firstDifference_114 : decode cX3_firstDifference 114 = .ok (.ifCond .eq 18, 3) := by decide +kernel
theorem dX3_firstDifference_117 : decode cX3_firstDifference 117 = .ok (.aload_n 0, 1) := by decide +kernel
theorem dX3_firstDifference_118 : decode cX3_firstDifference 118 = .ok (.getfield 7, 3) := by decide +kernel
theorem dX3_firstDifference_121 : decode cX3_firstDifference 121 = .ok (.sipush 600, 3) := by decide +kernel
theorem dX3_firstDifference_124 : decode cX3_firstDifference 124 = .ok (.iload_n 1, 1) := by decide +kernel
theorem dX3_firstDifference_125 : decode cX3_firstDifference 125 = .ok (.imul, 1) := by decide +kernel
theorem dX3_firstDifference_126 : decode cX3_firstDifference 126 = .ok (.iload_n 3, 1) := by decide +kernel
theorem dX3_firstDifference_127 : decode cX3_firstDifference 127 = .ok (.iadd, 1) := by decide +kernel
theorem dX3_firstDifference_128 : decode cX3_firstDifference 128 = .ok (.iaload, 1) := by decide +kernel
theorem dX3_firstDifference_129 : decode cX3_firstDifference 129 = .ok (.goto 16, 3) := by decide +kernel
theorem dX3_firstDifference_132 : decode cX3_firstDifference 132 = .ok (.aload_n 0, 1) := by decide +kernel
theorem dX3_firstDifference_133 : decode cX3_firstDifference 133 = .ok (.getfield 7, 3) := by decide +kernel
theorem dX3_firstDifference_136 : decode cX3_firstDifference 136 = .ok (.sipush 600, 3) := by decide +kernel
theorem dX3_firstDifference_139 : decode cX3_firstDifference 139 = .ok (.iload_n 2, 1) := by decide +kernel
theorem dX3_firstDifference_140 : decode cX3_firstDifference 140 = .ok (.imul, 1) := by decide +kernel
theorem dX3_firstDifference_141 : decode cX3_firstDifference 141 = .ok (.iload 4, 2) := by decide +kernel
theorem dX3_firstDifference_143 : decode cX3_firstDifference 143 = .ok (.iadd, 1) := by decide +kernel
theorem dX3_firstDifference_144 : decode cX3_firstDifference 144 = .ok (.iaload, 1) := by decide +kernel
theorem dX3_firstDifference_145 : decode cX3_firstDifference 145 = .ok (.istore 7, 2) := by decide +kernel
theorem dX3_firstDifference_147 : decode cX3_firstDifference 147 = .ok (.iload 6, 2) := by decide +kernel
theorem dX3_firstDifference_149 : decode cX3_firstDifference 149 = .ok (.ifCond .eq 19, 3) := by decide +kernel
theorem dX3_firstDifference_152 : decode cX3_firstDifference 152 = .ok (.aload_n 0, 1) := by decide +kernel
theorem dX3_firstDifference_153 : decode cX3_firstDifference 153 = .ok (.getfield 7, 3) := by decide +kernel
theorem dX3_firstDifference_156 : decode cX3_firstDifference 156 = .ok (.sipush 600, 3) := by decide +kernel
theorem dX3_firstDifference_159 : decode cX3_firstDifference 159 = .ok (.iload_n 2, 1) := by decide +kernel
theorem dX3_firstDifference_160 : decode cX3_firstDifference 160 = .ok (.imul, 1) := by decide +kernel
theorem dX3_firstDifference_161 : decode cX3_firstDifference 161 = .ok (.iload 4, 2) := by decide +kernel
theorem dX3_firstDifference_163 : decode cX3_firstDifference 163 = .ok (.iadd, 1) := by decide +kernel
theorem dX3_firstDifference_164 : decode cX3_firstDifference 164 = .ok (.iaload, 1) := by decide +kernel
theorem dX3_firstDifference_165 : decode cX3_firstDifference 165 = .ok (.goto 5, 3) := by decide +kernel
theorem dX3_firstDifference_168 : decode cX3_firstDifference 168 = .ok (.iload 7, 2) := by decide +kernel
theorem dX3_firstDifference_170 : decode cX3_firstDifference 170 = .ok (.istore 8, 2) := by decide +kernel
theorem dX3_firstDifference_172 : decode cX3_firstDifference 172 = .ok (.iload 7, 2) := by decide +kernel
theorem dX3_firstDifference_174 : decode cX3_firstDifference 174 = .ok (.iload 8, 2) := by decide +kernel
theorem dX3_firstDifference_176 : decode cX3_firstDifference 176 = .ok (.if_icmp .ge 8, 3) := by decide +kernel
theorem dX3_firstDifference_179 : decode cX3_firstDifference 179 = .ok (.iload 7, 2) := by decide +kernel
theorem dX3_firstDifference_181 : decode cX3_firstDifference 181 = .ok (.goto 5, 3) := by decide +kernel
theorem dX3_firstDifference_184 : decode cX3_firstDifference 184 = .ok (.iload 8, 2) := by decide +kernel
theorem dX3_firstDifference_186 : decode cX3_firstDifference 186 = .ok (.ireturn, 1) := by decide +kernel
set_option maxRecDepth 20000 in
theorem ggX3_open_X3_spare : GoodIn wsX3_open wsX3_spare := goodIn_r _ [9, 2, 33, 34, 35, 36, 37, 38, 39] (by decide +kernel) (by decide +kernel)
set_option maxRecDepth 20000 in
theorem gX3_open_X3_spare : GoodIn wsX3_open (wsV RX3 61 RX3 yX3_spare wsX3_spare) := goodIn_app (goodIn_of _ (by decide +kernel)) ggX3_open_X3_spare
set_option maxRecDepth 20000 in
theorem ggX3_open_X3_isVersion : GoodIn wsX3_open wsX3_isVersion := goodIn_r _ [13, 2, 33, 34, 35, 36, 37, 38, 39] (by decide +kernel) (by decide +kernel)
set_option maxRecDepth 20000 in
theorem gX3_open_X3_isVersion : GoodIn wsX3_open (wsV RX3 41 RX3 yX3_isVersion wsX3_isVersion) := goodIn_app (goodIn_of _ (by decide +kernel)) ggX3_open_X3_isVersion
set_option maxRecDepth 20000 in
theorem ggX3_open_X3_copy : GoodIn wsX3_open wsX3_copy := goodIn_r _ [17, 18, 19, 20, 33, 34, 35, 36, 37, 38, 39] (by decide +kernel) (by decide +kernel)
set_option maxRecDepth 20000 in
theorem gX3_open_X3_copy : GoodIn wsX3_open (wsV RX3 64 RX3 yX3_copy wsX3_copy) := goodIn_app (goodIn_of _ (by decide +kernel)) ggX3_open_X3_copy
set_option maxRecDepth 20000 in
theorem ggX3_open_X3_upTo : GoodIn wsX3_open wsX3_upTo := goodIn_r _ [24, 25, 26, 27, 8, 28, 18, 19, 29, 30, 31, 32, 33, 34, 35, 36, 37, 38, 39] (by decide +kernel) (by decide +kernel)
set_option maxRecDepth 20000 in
theorem gX3_open_X3_upTo : GoodIn wsX3_open (wsV RX3 54 RX3 yX3_upTo wsX3_upTo) := goodIn_app (goodIn_of _ (by decide +kernel)) ggX3_open_X3_upTo
set_option maxRecDepth 20000 in
theorem ggX3_open_X3_below : GoodIn wsX3_open wsX3_below := goodIn_r _ [28, 18, 19, 33, 34, 35, 36, 37, 38, 39] (by decide +kernel) (by decide +kernel)
set_option maxRecDepth 20000 in
theorem gX3_open_X3_below : GoodIn wsX3_open (wsV RX3 33 RX3 yX3_below wsX3_below) := goodIn_app (goodIn_of _ (by decide +kernel)) ggX3_open_X3_below
theorem dX3_open_0 : decode cX3_open 0 = .ok (.aload_n 0, 1) := by decide +kernel
theorem dX3_open_1 : decode cX3_open 1 = .ok (.bipush 13, 2) := by decide +kernel
theorem dX3_open_3 : decode cX3_open 3 = .ok (.bipush 20, 2) := by decide +kernel
theorem dX3_open_5 : decode cX3_open 5 = .ok (.invokevirtual 61, 3) := by decide +kernel
theorem dX3_open_8 : decode cX3_open 8 = .ok (.istore 4, 2) := by decide +kernel
theorem dX3_open_10 : decode cX3_open 10 = .ok (.aload_n 0, 1) := by decide +kernel
theorem dX3_open_11 : decode cX3_open 11 = .ok (.aload_n 0, 1) := by decide +kernel
theorem dX3_open_12 : decode cX3_open 12 = .ok (.iload_n 1, 1) := by decide +kernel
theorem dX3_open_13 : decode cX3_open 13 = .ok (.invokevirtual 41, 3) := by decide +kernel
theorem dX3_open_16 : decode cX3_open 16 = .ok (.ifCond .ne 7, 3) := by decide +kernel
theorem dX3_open_19 : decode cX3_open 19 = .ok (.iconst 1, 1) := by decide +kernel
theorem dX3_open_20 : decode cX3_open 20 = .ok (.goto 13, 3) := by decide +kernel
theorem dX3_open_23 : decode cX3_open 23 = .ok (.iload 4, 2) := by decide +kernel
theorem dX3_open_25 : decode cX3_open 25 = .ok (.ifCond .ge 7, 3) := by decide +kernel
theorem dX3_open_28 : decode cX3_open 28 = .ok (.iconst 2, 1) := by decide +kernel
theorem dX3_open_29 : decode cX3_open 29 = .ok (.goto 4, 3) := by decide +kernel
theorem dX3_open_32 : decode cX3_open 32 = .ok (.iconst 0, 1) := by decide +kernel
theorem dX3_open_33 : decode cX3_open 33 = .ok (.putfield 29, 3) := by decide +kernel
theorem dX3_open_36 : decode cX3_open 36 = .ok (.aload_n 0, 1) := by decide +kernel
theorem dX3_open_37 : decode cX3_open 37 = .ok (.getfield 29, 3) := by decide +kernel
theorem dX3_open_40 : decode cX3_open 40 = .ok (.ifCond .le 5, 3) := by decide +kernel
theorem dX3_open_43 : decode cX3_open 43 = .ok (.iconst 0, 1) := by decide +kernel
theorem dX3_open_44 : decode cX3_open 44 = .ok (.ireturn, 1) := by decide +kernel
theorem dX3_open_45 : decode cX3_open 45 = .ok (.aload_n 0, 1) := by decide +kernel
theorem dX3_open_46 : decode cX3_open 46 = .ok (.getfield 19, 3) := by decide +kernel
theorem dX3_open_49 : decode cX3_open 49 = .ok (.iload 4, 2) := by decide +kernel
theorem dX3_open_51 : decode cX3_open 51 = .ok (.iconst 1, 1) := by decide +kernel
theorem dX3_open_52 : decode cX3_open 52 = .ok (.bastore, 1) := by decide +kernel
theorem dX3_open_53 : decode cX3_open 53 = .ok (.aload_n 0, 1) := by decide +kernel
theorem dX3_open_54 : decode cX3_open 54 = .ok (.iload_n 1, 1) := by decide +kernel
theorem dX3_open_55 : decode cX3_open 55 = .ok (.iload 4, 2) := by decide +kernel
theorem dX3_open_57 : decode cX3_open 57 = .ok (.invokevirtual 64, 3) := by decide +kernel
theorem dX3_open_60 : decode cX3_open 60 = .ok (.aload_n 0, 1) := by decide +kernel
theorem dX3_open_61 : decode cX3_open 61 = .ok (.getfield 23, 3) := by decide +kernel
theorem dX3_open_64 : decode cX3_open 64 = .ok (.iload 4, 2) := by decide +kernel
theorem dX3_open_66 : decode cX3_open 66 = .ok (.bipush 13, 2) := by decide +kernel
theorem dX3_open_68 : decode cX3_open 68 = .ok (.isub, 1) := by decide +kernel
theorem dX3_open_69 : decode cX3_open 69 = .ok (.iload_n 3, 1) := by decide +kernel
theorem dX3_open_70 : decode cX3_open 70 = .ok (.ifCond .eq 15, 3) := by decide +kernel
theorem dX3_open_73 : decode cX3_open 73 = .ok (.aload_n 0, 1) := by decide +kernel
theorem dX3_open_74 : decode cX3_open 74 = .ok (.iload 4, 2) := by decide +kernel
theorem dX3_open_76 : decode cX3_open 76 = .ok (.iload_n 2, 1) := by decide +kernel
theorem dX3_open_77 : decode cX3_open 77 = .ok (.invokevirtual 54, 3) := by decide +kernel
theorem dX3_open_80 : decode cX3_open 80 = .ok (.iconst 1, 1) := by decide +kernel
theorem dX3_open_81 : decode cX3_open 81 = .ok (.isub, 1) := by decide +kernel
theorem dX3_open_82 : decode cX3_open 82 = .ok (.goto 10, 3) := by decide +kernel
theorem dX3_open_85 : decode cX3_open 85 = .ok (.aload_n 0, 1) := by decide +kernel
theorem dX3_open_86 : decode cX3_open 86 = .ok (.iload 4, 2) := by decide +kernel
theorem dX3_open_88 : decode cX3_open 88 = .ok (.iload_n 2, 1) := by decide +kernel
theorem dX3_open_89 : decode cX3_open 89 = .ok (.invokevirtual 33, 3) := by decide +kernel
theorem dX3_open_92 : decode cX3_open 92 = .ok (.iastore, 1) := by decide +kernel
theorem dX3_open_93 : decode cX3_open 93 = .ok (.aload_n 0, 1) := by decide +kernel
theorem dX3_open_94 : decode cX3_open 94 = .ok (.getfield 26, 3) := by decide +kernel
theorem dX3_open_97 : decode cX3_open 97 = .ok (.iload 4, 2) := by decide +kernel
theorem dX3_open_99 : decode cX3_open 99 = .ok (.bipush 13, 2) := by decide +kernel
theorem dX3_open_101 : decode cX3_open 101 = .ok (.isub, 1) := by decide +kernel
theorem dX3_open_102 : decode cX3_open 102 = .ok (.iload_n 3, 1) := by decide +kernel
theorem dX3_open_103 : decode cX3_open 103 = .ok (.bastore, 1) := by decide +kernel
theorem dX3_open_104 : decode cX3_open 104 = .ok (.iload 4, 2) := by decide +kernel
theorem dX3_open_106 : decode cX3_open 106 = .ok (.bipush 13, 2) := by decide +kernel
theorem dX3_open_108 : decode cX3_open 108 = .ok (.isub, 1) := by decide +kernel
theorem dX3_open_109 : decode cX3_open 109 = .ok (.ireturn, 1) := by decide +kernel
theorem dX3_isAtEnd_0 : decode cX3_isAtEnd 0 = .ok (.aload_n 0, 1) := by decide +kernel
theorem dX3_isAtEnd_1 : decode cX3_isAtEnd 1 = .ok (.getfield 23, 3) := by decide +kernel
theorem dX3_isAtEnd_4 : decode cX3_isAtEnd 4 = .ok (.iload_n 1, 1) := by decide +kernel
theorem dX3_isAtEnd_5 : decode cX3_isAtEnd 5 = .ok (.iaload, 1) := by decide +kernel
theorem dX3_isAtEnd_6 : decode cX3_isAtEnd 6 = .ok (.ifCond .lt 21, 3) := by decide +kernel
theorem dX3_isAtEnd_9 : decode cX3_isAtEnd 9 = .ok (.aload_n 0, 1) := by decide +kernel
theorem dX3_isAtEnd_10 : decode cX3_isAtEnd 10 = .ok (.getfield 23, 3) := by decide +kernel
theorem dX3_isAtEnd_13 : decode cX3_isAtEnd 13 = .ok (.iload_n 1, 1) := by decide +kernel
theorem dX3_isAtEnd_14 : decode cX3_isAtEnd 14 = .ok (.iaload, 1) := by decide +kernel
theorem dX3_isAtEnd_15 : decode cX3_isAtEnd 15 = .ok (.aload_n 0, 1) := by decide +kernel
theorem dX3_isAtEnd_16 : decode cX3_isAtEnd 16 = .ok (.getfield 16, 3) := by decide +kernel
theorem dX3_isAtEnd_19 : decode cX3_isAtEnd 19 = .ok (.bipush 13, 2) := by decide +kernel
theorem dX3_isAtEnd_21 : decode cX3_isAtEnd 21 = .ok (.iload_n 1, 1) := by decide +kernel
theorem dX3_isAtEnd_22 : decode cX3_isAtEnd 22 = .ok (.iadd, 1) := by decide +kernel
theorem dX3_isAtEnd_23 : decode cX3_isAtEnd 23 = .ok (.iaload, 1) := by decide +kernel
theorem dX3_isAtEnd_24 : decode cX3_isAtEnd 24 = .ok (.if_icmp .lt 7, 3) := by decide +kernel
theorem dX3_isAtEnd_27 : decode cX3_isAtEnd 27 = .ok (.iconst 1, 1) := by decide +kernel
theorem dX3_isAtEnd_28 : decode cX3_isAtEnd 28 = .ok (.goto 4, 3) := by decide +kernel
theorem dX3_isAtEnd_31 : decode cX3_isAtEnd 31 = .ok (.iconst 0, 1) := by decide +kernel
theorem dX3_isAtEnd_32 : decode cX3_isAtEnd 32 = .ok (.ireturn, 1) := by decide +kernel
theorem dX3_goOn_0 : decode cX3_goOn 0 = .ok (.aload_n 0, 1) := by decide +kernel
theorem dX3_goOn_1 : decode cX3_goOn 1 = .ok (.getfield 23, 3) := by decide +kernel
theorem dX3_goOn_4 : decode cX3_goOn 4 = .ok (.iload_n 1, 1) := by decide +kernel
theorem dX3_goOn_5 : decode cX3_goOn 5 = .ok (.dup2, 1) := by decide +kernel
theorem dX3_goOn_6 : decode cX3_goOn 6 = .ok (.iaload, 1) := by decide +kernel
theorem dX3_goOn_7 : decode cX3_goOn 7 = .ok (.aload_n 0, 1) := by decide +kernel
theorem dX3_goOn_8 : decode cX3_goOn 8 = .ok (.getfield 26, 3) := by decide +kernel
theorem dX3_goOn_11 : decode cX3_goOn 11 = .ok (.iload_n 1, 1) := by decide +kernel
theorem dX3_goOn_12 : decode cX3_goOn 12 = .ok (.baload, 1) := by decide +kernel
theorem dX3_goOn_13 : decode cX3_goOn 13 = .ok (.ifCond .eq 7, 3) := by decide +kernel
theorem dX3_goOn_16 : decode cX3_goOn 16 = .ok (.iconst (-1), 1) := by decide +kernel
theorem dX3_goOn_17 : decode cX3_goOn 17 = .ok (.goto 4, 3) := by decide +kernel
theorem dX3_goOn_20 : decode cX3_goOn 20 = .ok (.iconst 1, 1) := by decide +kernel
theorem dX3_goOn_21 : decode cX3_goOn 21 = .ok (.iadd, 1) := by decide +kernel
theorem dX3_goOn_22 : decode cX3_goOn 22 = .ok (.iastore, 1) := by decide +kernel
theorem dX3_goOn_23 : decode cX3_goOn 23 = .ok (.return_, 1) := by decide +kernel
set_option maxRecDepth 20000 in
theorem ggX3_next_X3_isCursor : GoodIn wsX3_next wsX3_isCursor := goodIn_r _ [8, 9, 20, 21, 22, 23, 24, 25, 26] (by decide +kernel) (by decide +kernel)
set_option maxRecDepth 20000 in
theorem gX3_next_X3_isCursor : GoodIn wsX3_next (wsV RX3 78 RX3 yX3_isCursor wsX3_isCursor) := goodIn_app (goodIn_of _ (by decide +kernel)) ggX3_next_X3_isCursor
set_option maxRecDepth 20000 in
theorem ggX3_next_X3_isAtEnd : GoodIn wsX3_next wsX3_isAtEnd := goodIn_r _ [13, 3, 14, 20, 21, 22, 23, 24, 25, 26] (by decide +kernel) (by decide +kernel)
set_option maxRecDepth 20000 in
theorem gX3_next_X3_isAtEnd : GoodIn wsX3_next (wsV RX3 81 RX3 yX3_isAtEnd wsX3_isAtEnd) := goodIn_app (goodIn_of _ (by decide +kernel)) ggX3_next_X3_isAtEnd
set_option maxRecDepth 20000 in
theorem ggX3_next_X3_goOn : GoodIn wsX3_next wsX3_goOn := goodIn_r _ [18, 3, 19, 20, 21, 22, 23, 24, 25, 26] (by decide +kernel) (by decide +kernel)
set_option maxRecDepth 20000 in
theorem gX3_next_X3_goOn : GoodIn wsX3_next (wsV RX3 84 RX3 yX3_goOn wsX3_goOn) := goodIn_app (goodIn_of _ (by decide +kernel)) ggX3_next_X3_goOn
theorem dX3_next_0 : decode cX3_next 0 = .ok (.aload_n 0, 1) := by decide +kernel
theorem dX3_next_1 : decode cX3_next 1 = .ok (.aload_n 0, 1) := by decide +kernel
theorem dX3_next_2 : decode cX3_next 2 = .ok (.iload_n 1, 1) := by decide +kernel
theorem dX3_next_3 : decode cX3_next 3 = .ok (.invokevirtual 78, 3) := by decide +kernel
theorem dX3_next_6 : decode cX3_next 6 = .ok (.ifCond .ne 7, 3) := by decide +kernel
theorem dX3_next_9 : decode cX3_next 9 = .ok (.iconst 1, 1) := by decide +kernel
theorem dX3_next_10 : decode cX3_next 10 = .ok (.goto 16, 3) := by decide +kernel
theorem dX3_next_13 : decode cX3_next 13 = .ok (.aload_n 0, 1) := by decide +kernel
theorem dX3_next_14 : decode cX3_next 14 = .ok (.iload_n 1, 1) := by decide +kernel
theorem dX3_next_15 : decode cX3_next 15 = .ok (.invokevirtual 81, 3) := by decide +kernel
theorem dX3_next_18 : decode cX3_next 18 = .ok (.ifCond .eq 7, 3) := by decide +kernel
theorem dX3_next_21 : decode cX3_next 21 = .ok (.iconst 2, 1) := by decide +kernel
theorem dX3_next_22 : decode cX3_next 22 = .ok (.goto 4, 3) := by decide +kernel
theorem dX3_next_25 : decode cX3_next 25 = .ok (.iconst 0, 1) := by decide +kernel
theorem dX3_next_26 : decode cX3_next 26 = .ok (.putfield 29, 3) := by decide +kernel
theorem dX3_next_29 : decode cX3_next 29 = .ok (.aload_n 0, 1) := by decide +kernel
theorem dX3_next_30 : decode cX3_next 30 = .ok (.getfield 29, 3) := by decide +kernel
theorem dX3_next_33 : decode cX3_next 33 = .ok (.ifCond .le 5, 3) := by decide +kernel
theorem dX3_next_36 : decode cX3_next 36 = .ok (.iconst 0, 1) := by decide +kernel
theorem dX3_next_37 : decode cX3_next 37 = .ok (.ireturn, 1) := by decide +kernel
theorem dX3_next_38 : decode cX3_next 38 = .ok (.aload_n 0, 1) := by decide +kernel
theorem dX3_next_39 : decode cX3_next 39 = .ok (.getfield 7, 3) := by decide +kernel
theorem dX3_next_42 : decode cX3_next 42 = .ok (.sipush 600, 3) := by decide +kernel
theorem dX3_next_45 : decode cX3_next 45 = .ok (.bipush 13, 2) := by decide +kernel
theorem dX3_next_47 : decode cX3_next 47 = .ok (.iload_n 1, 1) := by decide +kernel
theorem dX3_next_48 : decode cX3_next 48 = .ok (.iadd, 1) := by decide +kernel
theorem dX3_next_49 : decode cX3_next 49 = .ok (.imul, 1) := by decide +kernel
theorem dX3_next_50 : decode cX3_next 50 = .ok (.aload_n 0, 1) := by decide +kernel
theorem dX3_next_51 : decode cX3_next 51 = .ok (.getfield 23, 3) := by decide +kernel
theorem dX3_next_54 : decode cX3_next 54 = .ok (.iload_n 1, 1) := by decide +kernel
theorem dX3_next_55 : decode cX3_next 55 = .ok (.iaload, 1) := by decide +kernel
theorem dX3_next_56 : decode cX3_next 56 = .ok (.iadd, 1) := by decide +kernel
theorem dX3_next_57 : decode cX3_next 57 = .ok (.iaload, 1) := by decide +kernel
theorem dX3_next_58 : decode cX3_next 58 = .ok (.istore_n 2, 1) := by decide +kernel
theorem dX3_next_59 : decode cX3_next 59 = .ok (.aload_n 0, 1) := by decide +kernel
theorem dX3_next_60 : decode cX3_next 60 = .ok (.iload_n 1, 1) := by decide +kernel
theorem dX3_next_61 : decode cX3_next 61 = .ok (.invokevirtual 84, 3) := by decide +kernel
theorem dX3_next_64 : decode cX3_next 64 = .ok (.iload_n 2, 1) := by decide +kernel
theorem dX3_next_65 : decode cX3_next 65 = .ok (.ireturn, 1) := by decide +kernel
set_option maxRecDepth 20000 in
theorem ggX3_skip_X3_isCursor : GoodIn wsX3_skip wsX3_isCursor := goodIn_r _ [6, 7, 19, 20, 21, 22, 23, 24, 25] (by decide +kernel) (by decide +kernel)
set_option maxRecDepth 20000 in
theorem gX3_skip_X3_isCursor : GoodIn wsX3_skip (wsV RX3 78 RX3 yX3_isCursor wsX3_isCursor) := goodIn_app (goodIn_of _ (by decide +kernel)) ggX3_skip_X3_isCursor
set_option maxRecDepth 20000 in
theorem ggX3_skip_X3_isAtEnd : GoodIn wsX3_skip wsX3_isAtEnd := goodIn_r _ [11, 12, 13, 19, 20, 21, 22, 23, 24, 25] (by decide +kernel) (by decide +kernel)
set_option maxRecDepth 20000 in
theorem gX3_skip_X3_isAtEnd : GoodIn wsX3_skip (wsV RX3 81 RX3 yX3_isAtEnd wsX3_isAtEnd) := goodIn_app (goodIn_of _ (by decide +kernel)) ggX3_skip_X3_isAtEnd
set_option maxRecDepth 20000 in
theorem ggX3_skip_X3_goOn : GoodIn wsX3_skip wsX3_goOn := goodIn_r _ [17, 12, 18, 19, 20, 21, 22, 23, 24, 25] (by decide +kernel) (by decide +kernel)
set_option maxRecDepth 20000 in
theorem gX3_skip_X3_goOn : GoodIn wsX3_skip (wsV RX3 84 RX3 yX3_goOn wsX3_goOn) := goodIn_app (goodIn_of _ (by decide +kernel)) ggX3_skip_X3_goOn
theorem dX3_skip_0 : decode cX3_skip 0 = .ok (.aload_n 0, 1) := by decide +kernel
theorem dX3_skip_1 : decode cX3_skip 1 = .ok (.aload_n 0, 1) := by decide +kernel
theorem dX3_skip_2 : decode cX3_skip 2 = .ok (.iload_n 1, 1) := by decide +kernel
theorem dX3_skip_3 : decode cX3_skip 3 = .ok (.invokevirtual 78, 3) := by decide +kernel
theorem dX3_skip_6 : decode cX3_skip 6 = .ok (.ifCond .ne 7, 3) := by decide +kernel
theorem dX3_skip_9 : decode cX3_skip 9 = .ok (.iconst 1, 1) := by decide +kernel
theorem dX3_skip_10 : decode cX3_skip 10 = .ok (.goto 12, 3) := by decide +kernel
theorem dX3_skip_13 : decode cX3_skip 13 = .ok (.iload_n 2, 1) := by decide +kernel
theorem dX3_skip_14 : decode cX3_skip 14 = .ok (.ifCond .ge 7, 3) := by decide +kernel
theorem dX3_skip_17 : decode cX3_skip 17 = .ok (.iconst 2, 1) := by decide +kernel
theorem dX3_skip_18 : decode cX3_skip 18 = .ok (.goto 4, 3) := by decide +kernel
theorem dX3_skip_21 : decode cX3_skip 21 = .ok (.iconst 0, 1) := by decide +kernel
theorem dX3_skip_22 : decode cX3_skip 22 = .ok (.putfield 29, 3) := by decide +kernel
theorem dX3_skip_25 : decode cX3_skip 25 = .ok (.iconst 0, 1) := by decide +kernel
theorem dX3_skip_26 : decode cX3_skip 26 = .ok (.istore_n 3, 1) := by decide +kernel
theorem dX3_skip_27 : decode cX3_skip 27 = .ok (.aload_n 0, 1) := by decide +kernel
theorem dX3_skip_28 : decode cX3_skip 28 = .ok (.getfield 29, 3) := by decide +kernel
theorem dX3_skip_31 : decode cX3_skip 31 = .ok (.ifCond .ne 27, 3) := by decide +kernel
theorem dX3_skip_34 : decode cX3_skip 34 = .ok (.iload_n 3, 1) := by decide +kernel
theorem dX3_skip_35 : decode cX3_skip 35 = .ok (.iload_n 2, 1) := by decide +kernel
theorem dX3_skip_36 : decode cX3_skip 36 = .ok (.if_icmp .ge 22, 3) := by decide +kernel
theorem dX3_skip_39 : decode cX3_skip 39 = .ok (.aload_n 0, 1) := by decide +kernel
theorem dX3_skip_40 : decode cX3_skip 40 = .ok (.iload_n 1, 1) := by decide +kernel
theorem dX3_skip_41 : decode cX3_skip 41 = .ok (.invokevirtual 81, 3) := by decide +kernel
theorem dX3_skip_44 : decode cX3_skip 44 = .ok (.ifCond .ne 14, 3) := by decide +kernel
theorem dX3_skip_47 : decode cX3_skip 47 = .ok (.aload_n 0, 1) := by decide +kernel
theorem dX3_skip_48 : decode cX3_skip 48 = .ok (.iload_n 1, 1) := by decide +kernel
theorem dX3_skip_49 : decode cX3_skip 49 = .ok (.invokevirtual 84, 3) := by decide +kernel
theorem dX3_skip_52 : decode cX3_skip 52 = .ok (.iinc 3 1, 3) := by decide +kernel
theorem dX3_skip_55 : decode cX3_skip 55 = .ok (.goto (-28), 3) := by decide +kernel
theorem dX3_skip_58 : decode cX3_skip 58 = .ok (.iload_n 3, 1) := by decide +kernel
theorem dX3_skip_59 : decode cX3_skip 59 = .ok (.ireturn, 1) := by decide +kernel
set_option maxRecDepth 20000 in
theorem ggX3_peek_X3_isCursor : GoodIn wsX3_peek wsX3_isCursor := goodIn_r _ [8, 9, 15, 16, 17, 18, 19, 20, 21] (by decide +kernel) (by decide +kernel)
set_option maxRecDepth 20000 in
theorem gX3_peek_X3_isCursor : GoodIn wsX3_peek (wsV RX3 78 RX3 yX3_isCursor wsX3_isCursor) := goodIn_app (goodIn_of _ (by decide +kernel)) ggX3_peek_X3_isCursor
set_option maxRecDepth 20000 in
theorem ggX3_peek_X3_isAtEnd : GoodIn wsX3_peek wsX3_isAtEnd := goodIn_r _ [13, 3, 14, 15, 16, 17, 18, 19, 20, 21] (by decide +kernel) (by decide +kernel)
set_option maxRecDepth 20000 in
theorem gX3_peek_X3_isAtEnd : GoodIn wsX3_peek (wsV RX3 81 RX3 yX3_isAtEnd wsX3_isAtEnd) := goodIn_app (goodIn_of _ (by decide +kernel)) ggX3_peek_X3_isAtEnd
theorem dX3_peek_0 : decode cX3_peek 0 = .ok (.aload_n 0, 1) := by decide +kernel
theorem dX3_peek_1 : decode cX3_peek 1 = .ok (.aload_n 0, 1) := by decide +kernel
theorem dX3_peek_2 : decode cX3_peek 2 = .ok (.iload_n 1, 1) := by decide +kernel
theorem dX3_peek_3 : decode cX3_peek 3 = .ok (.invokevirtual 78, 3) := by decide +kernel
theorem dX3_peek_6 : decode cX3_peek 6 = .ok (.ifCond .ne 7, 3) := by decide +kernel
theorem dX3_peek_9 : decode cX3_peek 9 = .ok (.iconst 1, 1) := by decide +kernel
theorem dX3_peek_10 : decode cX3_peek 10 = .ok (.goto 16, 3) := by decide +kernel
theorem dX3_peek_13 : decode cX3_peek 13 = .ok (.aload_n 0, 1) := by decide +kernel
theorem dX3_peek_14 : decode cX3_peek 14 = .ok (.iload_n 1, 1) := by decide +kernel
theorem dX3_peek_15 : decode cX3_peek 15 = .ok (.invokevirtual 81, 3) := by decide +kernel
theorem dX3_peek_18 : decode cX3_peek 18 = .ok (.ifCond .eq 7, 3) := by decide +kernel
theorem dX3_peek_21 : decode cX3_peek 21 = .ok (.iconst 2, 1) := by decide +kernel
theorem dX3_peek_22 : decode cX3_peek 22 = .ok (.goto 4, 3) := by decide +kernel
theorem dX3_peek_25 : decode cX3_peek 25 = .ok (.iconst 0, 1) := by decide +kernel
theorem dX3_peek_26 : decode cX3_peek 26 = .ok (.putfield 29, 3) := by decide +kernel
theorem dX3_peek_29 : decode cX3_peek 29 = .ok (.aload_n 0, 1) := by decide +kernel
theorem dX3_peek_30 : decode cX3_peek 30 = .ok (.getfield 29, 3) := by decide +kernel
theorem dX3_peek_33 : decode cX3_peek 33 = .ok (.ifCond .le 7, 3) := by decide +kernel
theorem dX3_peek_36 : decode cX3_peek 36 = .ok (.iconst 0, 1) := by decide +kernel
theorem dX3_peek_37 : decode cX3_peek 37 = .ok (.goto 23, 3) := by decide +kernel
theorem dX3_peek_40 : decode cX3_peek 40 = .ok (.aload_n 0, 1) := by decide +kernel
theorem dX3_peek_41 : decode cX3_peek 41 = .ok (.getfield 13, 3) := by decide +kernel
theorem dX3_peek_44 : decode cX3_peek 44 = .ok (.sipush 600, 3) := by decide +kernel
theorem dX3_peek_47 : decode cX3_peek 47 = .ok (.bipush 13, 2) := by decide +kernel
theorem dX3_peek_49 : decode cX3_peek 49 = .ok (.iload_n 1, 1) := by decide +kernel
theorem dX3_peek_50 : decode cX3_peek 50 = .ok (.iadd, 1) := by decide +kernel
theorem dX3_peek_51 : decode cX3_peek 51 = .ok (.imul, 1) := by decide +kernel
theorem dX3_peek_52 : decode cX3_peek 52 = .ok (.aload_n 0, 1) := by decide +kernel
theorem dX3_peek_53 : decode cX3_peek 53 = .ok (.getfield 23, 3) := by decide +kernel
theorem dX3_peek_56 : decode cX3_peek 56 = .ok (.iload_n 1, 1) := by decide +kernel
theorem dX3_peek_57 : decode cX3_peek 57 = .ok (.iaload, 1) := by decide +kernel
theorem dX3_peek_58 : decode cX3_peek 58 = .ok (.iadd, 1) := by decide +kernel
theorem dX3_peek_59 : decode cX3_peek 59 = .ok (.iaload, 1) := by decide +kernel
theorem dX3_peek_60 : decode cX3_peek 60 = .ok (.ireturn, 1) := by decide +kernel
set_option maxRecDepth 20000 in
theorem ggX3_close_X3_isCursor : GoodIn wsX3_close wsX3_isCursor := goodIn_r _ [7, 2, 8, 9, 10, 11, 12, 13, 14] (by decide +kernel) (by decide +kernel)
set_option maxRecDepth 20000 in
theorem gX3_close_X3_isCursor : GoodIn wsX3_close (wsV RX3 78 RX3 yX3_isCursor wsX3_isCursor) := goodIn_app (goodIn_of _ (by decide +kernel)) ggX3_close_X3_isCursor
theorem dX3_close_0 : decode cX3_close 0 = .ok (.aload_n 0, 1) := by decide +kernel
theorem dX3_close_1 : decode cX3_close 1 = .ok (.aload_n 0, 1) := by decide +kernel
theorem dX3_close_2 : decode cX3_close 2 = .ok (.iload_n 1, 1) := by decide +kernel
theorem dX3_close_3 : decode cX3_close 3 = .ok (.invokevirtual 78, 3) := by decide +kernel
theorem dX3_close_6 : decode cX3_close 6 = .ok (.ifCond .eq 7, 3) := by decide +kernel
theorem dX3_close_9 : decode cX3_close 9 = .ok (.iconst 0, 1) := by decide +kernel
theorem dX3_close_10 : decode cX3_close 10 = .ok (.goto 4, 3) := by decide +kernel
theorem dX3_close_13 : decode cX3_close 13 = .ok (.iconst 1, 1) := by decide +kernel
theorem dX3_close_14 : decode cX3_close 14 = .ok (.putfield 29, 3) := by decide +kernel
theorem dX3_close_17 : decode cX3_close 17 = .ok (.aload_n 0, 1) := by decide +kernel
theorem dX3_close_18 : decode cX3_close 18 = .ok (.getfield 29, 3) := by decide +kernel
theorem dX3_close_21 : decode cX3_close 21 = .ok (.ifCond .le 5, 3) := by decide +kernel
theorem dX3_close_24 : decode cX3_close 24 = .ok (.iconst 0, 1) := by decide +kernel
theorem dX3_close_25 : decode cX3_close 25 = .ok (.ireturn, 1) := by decide +kernel
theorem dX3_close_26 : decode cX3_close 26 = .ok (.aload_n 0, 1) := by decide +kernel
theorem dX3_close_27 : decode cX3_close 27 = .ok (.getfield 19, 3) := by decide +kernel
theorem dX3_close_30 : decode cX3_close 30 = .ok (.bipush 13, 2) := by decide +kernel
theorem dX3_close_32 : decode cX3_close 32 = .ok (.iload_n 1, 1) := by decide +kernel
theorem dX3_close_33 : decode cX3_close 33 = .ok (.iadd, 1) := by decide +kernel
theorem dX3_close_34 : decode cX3_close 34 = .ok (.iconst 0, 1) := by decide +kernel
theorem dX3_close_35 : decode cX3_close 35 = .ok (.bastore, 1) := by decide +kernel
theorem dX3_close_36 : decode cX3_close 36 = .ok (.iconst 0, 1) := by decide +kernel
theorem dX3_close_37 : decode cX3_close 37 = .ok (.istore_n 2, 1) := by decide +kernel
theorem dX3_close_38 : decode cX3_close 38 = .ok (.iconst 0, 1) := by decide +kernel
theorem dX3_close_39 : decode cX3_close 39 = .ok (.istore_n 3, 1) := by decide +kernel
theorem dX3_close_40 : decode cX3_close 40 = .ok (.iload_n 3, 1) := by decide +kernel
theorem dX3_close_41 : decode cX3_close 41 = .ok (.bipush 8, 2) := by decide +kernel
theorem dX3_close_43 : decode cX3_close 43 = .ok (.if_icmp .ge 29, 3) := by decide +kernel
theorem dX3_close_46 : decode cX3_close 46 = .ok (.iload_n 2, 1) := by decide +kernel
theorem dX3_close_47 : decode cX3_close 47 = .ok (.aload_n 0, 1) := by decide +kernel
theorem dX3_close_48 : decode cX3_close 48 = .ok (.getfield 19, 3) := by decide +kernel
theorem dX3_close_51 : decode cX3_close 51 = .ok (.bipush 13, 2) := by decide +kernel
theorem dX3_close_53 : decode cX3_close 53 = .ok (.iload_n 3, 1) := by decide +kernel
theorem dX3_close_54 : decode cX3_close 54 = .ok (.iadd, 1) := by decide +kernel
theorem dX3_close_55 : decode cX3_close 55 = .ok (.baload, 1) := by decide +kernel
theorem dX3_close_56 : decode cX3_close 56 = .ok (.ifCond .eq 7, 3) := by decide +kernel
theorem dX3_close_59 : decode cX3_close 59 = .ok (.iconst 1, 1) := by decide +kernel
theorem dX3_close_60 : decode cX3_close 60 = .ok (.goto 4, 3) := by decide +kernel
theorem dX3_close_63 : decode cX3_close 63 = .ok (.iconst 0, 1) := by decide +kernel
theorem dX3_close_64 : decode cX3_close 64 = .ok (.iadd, 1) := by decide +kernel
theorem dX3_close_65 : decode cX3_close 65 = .ok (.istore_n 2, 1) := by decide +kernel
theorem dX3_close_66 : decode cX3_close 66 = .ok (.iinc 3 1, 3) := by decide +kernel
theorem dX3_close_69 : decode cX3_close 69 = .ok (.goto (-29), 3) := by decide +kernel
theorem dX3_close_72 : decode cX3_close 72 = .ok (.iload_n 2, 1) := by decide +kernel
theorem dX3_close_73 : decode cX3_close 73 = .ok (.ireturn, 1) := by decide +kernel
theorem dX3_astray_0 : decode cX3_astray 0 = .ok (.aload_n 0, 1) := by decide +kernel
theorem dX3_astray_1 : decode cX3_astray 1 = .ok (.iconst 0, 1) := by decide +kernel
theorem dX3_astray_2 : decode cX3_astray 2 = .ok (.putfield 29, 3) := by decide +kernel
theorem dX3_astray_5 : decode cX3_astray 5 = .ok (.iconst 0, 1) := by decide +kernel
theorem dX3_astray_6 : decode cX3_astray 6 = .ok (.ireturn, 1) := by decide +kernel
end
section
set_option maxRecDepth 20000 in
theorem ggL_put_X2_put : GoodIn wsL_put wsX2_put := goodIn_ca (goodIn_r _ [6, 7, 8, 9, 10, 11, 12, 13, 14, 15, 16, 17, 18, 19, 20, 21, 22, 23, 24, 25, 26, 27, 28, 29, 30, 31, 32, 33, 34, 35, 36, 37, 38, 39, 40, 41, 42, 43] (by decide +kernel) (by decide +kernel)) (goodIn_sub (fun _ h => List.mem_cons_of_mem _ (List.mem_append_right _ h)) (by decide +kernel))
set_option maxRecDepth 20000 in
theorem gL_put_X2_put : GoodIn wsL_put (wsV RL 7 RX2 yX2_put wsX2_put) := goodIn_app (goodIn_of _ (by decide +kernel)) ggL_put_X2_put
theorem dL_put_0 : decode cL_put 0 = .ok (.aload_n 3, 1) := by decide +kernel
theorem dL_put_1 : decode cL_put 1 = .ok (.iconst 0, 1) := by decide +kernel
theorem dL_put_2 : decode cL_put 2 = .ok (.aload_n 0, 1) := by decide +kernel
theorem dL_put_3 : decode cL_put 3 = .ok (.iload_n 1, 1) := by decide +kernel
theorem dL_put_4 : decode cL_put 4 = .ok (.iload_n 2, 1) := by decide +kernel
theorem dL_put_5 : decode cL_put 5 = .ok (.invokevirtual 7, 3) := by decide +kernel
theorem dL_put_8 : decode cL_put 8 = .ok (.ifCond .eq 7, 3) := by decide +kernel
theorem dL_put_11 : decode cL_put 11 = .ok (.lconst 1, 1) := by decide +kernel
theorem dL_put_12 : decode cL_put 12 = .ok (.goto 4, 3) := by decide +kernel
theorem dL_put_15 : decode cL_put 15 = .ok (.lconst 0, 1) := by decide +kernel
theorem dL_put_16 : decode cL_put 16 = .ok (.lastore, 1) := by decide +kernel
theorem dL_put_17 : decode cL_put 17 = .ok (.goto 7, 3) := by decide +kernel
theorem dL_put_20 : decode cL_put 20 = .ok (.astore 4, 2) := by decide +kernel
theorem dL_put_22 : decode cL_put 22 = .ok (.iconst 1, 1) := by decide +kernel
theorem dL_put_23 : decode cL_put 23 = .ok (.ireturn, 1) := by decide +kernel
theorem dL_put_24 : decode cL_put 24 = .ok (.iconst 0, 1) := by decide +kernel
theorem dL_put_25 : decode cL_put 25 = .ok (.ireturn, 1) := by decide +kernel
set_option maxRecDepth 20000 in
theorem ggL_remove_X2_remove : GoodIn wsL_remove wsX2_remove := goodIn_ca (goodIn_r _ [6, 7, 8, 9, 10, 11, 12, 13, 14, 15, 16, 17, 18, 19, 20, 21, 22, 23, 24, 25, 26, 27, 28, 29, 30, 31, 32, 33, 34, 35, 36, 37, 38, 39, 40, 41, 42] (by decide +kernel) (by decide +kernel)) (goodIn_sub (fun _ h => List.mem_cons_of_mem _ (List.mem_append_right _ h)) (by decide +kernel))
set_option maxRecDepth 20000 in
theorem gL_remove_X2_remove : GoodIn wsL_remove (wsV RL 15 RX2 yX2_remove wsX2_remove) := goodIn_app (goodIn_of _ (by decide +kernel)) ggL_remove_X2_remove
theorem dL_remove_0 : decode cL_remove 0 = .ok (.aload_n 2, 1) := by decide +kernel
theorem dL_remove_1 : decode cL_remove 1 = .ok (.iconst 0, 1) := by decide +kernel
theorem dL_remove_2 : decode cL_remove 2 = .ok (.aload_n 0, 1) := by decide +kernel
theorem dL_remove_3 : decode cL_remove 3 = .ok (.iload_n 1, 1) := by decide +kernel
theorem dL_remove_4 : decode cL_remove 4 = .ok (.invokevirtual 15, 3) := by decide +kernel
theorem dL_remove_7 : decode cL_remove 7 = .ok (.i2l, 1) := by decide +kernel
theorem dL_remove_8 : decode cL_remove 8 = .ok (.lastore, 1) := by decide +kernel
theorem dL_remove_9 : decode cL_remove 9 = .ok (.goto 6, 3) := by decide +kernel
theorem dL_remove_12 : decode cL_remove 12 = .ok (.astore_n 3, 1) := by decide +kernel
theorem dL_remove_13 : decode cL_remove 13 = .ok (.iconst 1, 1) := by decide +kernel
theorem dL_remove_14 : decode cL_remove 14 = .ok (.ireturn, 1) := by decide +kernel
theorem dL_remove_15 : decode cL_remove 15 = .ok (.iconst 0, 1) := by decide +kernel
theorem dL_remove_16 : decode cL_remove 16 = .ok (.ireturn, 1) := by decide +kernel
set_option maxRecDepth 20000 in
theorem ggL_load_X2_load : GoodIn wsL_load wsX2_load := goodIn_ca (goodIn_r _ [6, 7, 8, 9, 10, 11, 12, 13, 14, 15, 16, 17, 18, 19, 20, 21, 22, 23, 24, 25, 26, 27] (by decide +kernel) (by decide +kernel)) (goodIn_sub (fun _ h => List.mem_cons_of_mem _ (List.mem_append_right _ h)) (by decide +kernel))
set_option maxRecDepth 20000 in
theorem gL_load_X2_load : GoodIn wsL_load (wsV RL 21 RX2 yX2_load wsX2_load) := goodIn_app (goodIn_of _ (by decide +kernel)) ggL_load_X2_load
theorem dL_load_0 : decode cL_load 0 = .ok (.aload 6, 2) := by decide +kernel
theorem dL_load_2 : decode cL_load 2 = .ok (.iconst 0, 1) := by decide +kernel
theorem dL_load_3 : decode cL_load 3 = .ok (.aload_n 0, 1) := by decide +kernel
theorem dL_load_4 : decode cL_load 4 = .ok (.iload_n 1, 1) := by decide +kernel
theorem dL_load_5 : decode cL_load 5 = .ok (.iload_n 2, 1) := by decide +kernel
theorem dL_load_6 : decode cL_load 6 = .ok (.iload_n 3, 1) := by decide +kernel
theorem dL_load_7 : decode cL_load 7 = .ok (.iload 4, 2) := by decide +kernel
theorem dL_load_9 : decode cL_load 9 = .ok (.iload 5, 2) := by decide +kernel
theorem dL_load_11 : decode cL_load 11 = .ok (.invokevirtual 21, 3) := by decide +kernel
theorem dL_load_14 : decode cL_load 14 = .ok (.i2l, 1) := by decide +kernel
theorem dL_load_15 : decode cL_load 15 = .ok (.lastore, 1) := by decide +kernel
theorem dL_load_16 : decode cL_load 16 = .ok (.goto 7, 3) := by decide +kernel
theorem dL_load_19 : decode cL_load 19 = .ok (.astore 7, 2) := by decide +kernel
theorem dL_load_21 : decode cL_load 21 = .ok (.iconst 1, 1) := by decide +kernel
theorem dL_load_22 : decode cL_load 22 = .ok (.ireturn, 1) := by decide +kernel
theorem dL_load_23 : decode cL_load 23 = .ok (.iconst 0, 1) := by decide +kernel
theorem dL_load_24 : decode cL_load 24 = .ok (.ireturn, 1) := by decide +kernel
set_option maxRecDepth 20000 in
theorem ggL_merge_X2_merge : GoodIn wsL_merge wsX2_merge := goodIn_ca (goodIn_ca (goodIn_r _ [7, 8, 9, 10, 11, 12, 13, 14, 6, 15, 16, 17, 18, 19, 20, 21, 22, 23, 24, 25, 26, 27, 28, 29, 30, 31, 32, 33, 34, 35, 36, 37, 38, 39, 40, 41, 42, 43, 44, 45, 46, 47, 48, 49, 50] (by decide +kernel) (by decide +kernel)) (goodIn_sub (fun _ h => List.mem_cons_of_mem _ (List.mem_append_left _ (List.mem_append_right _ h))) (by decide +kernel))) (goodIn_sub (fun _ h => List.mem_cons_of_mem _ (List.mem_append_right _ h)) (by decide +kernel))
set_option maxRecDepth 20000 in
theorem gL_merge_X2_merge : GoodIn wsL_merge (wsV RL 27 RX2 yX2_merge wsX2_merge) := goodIn_app (goodIn_of _ (by decide +kernel)) ggL_merge_X2_merge
theorem dL_merge_0 : decode cL_merge 0 = .ok (.aload_n 2, 1) := by decide +kernel
theorem dL_merge_1 : decode cL_merge 1 = .ok (.iconst 0, 1) := by decide +kernel
theorem dL_merge_2 : decode cL_merge 2 = .ok (.aload_n 0, 1) := by decide +kernel
theorem dL_merge_3 : decode cL_merge 3 = .ok (.iload_n 1, 1) := by decide +kernel
theorem dL_merge_4 : decode cL_merge 4 = .ok (.invokevirtual 27, 3) := by decide +kernel
theorem dL_merge_7 : decode cL_merge 7 = .ok (.i2l, 1) := by decide +kernel
theorem dL_merge_8 : decode cL_merge 8 = .ok (.lastore, 1) := by decide +kernel
theorem dL_merge_9 : decode cL_merge 9 = .ok (.goto 9, 3) := by decide +kernel
theorem dL_merge_12 : decode cL_merge 12 = .ok (.astore_n 3, 1) := by decide +kernel
theorem dL_merge_13 : decode cL_merge 13 = .ok (.iconst 1, 1) := by decide +kernel
theorem dL_merge_14 : decode cL_merge 14 = .ok (.ireturn, 1) := by decide +kernel
theorem dL_merge_15 : decode cL_merge 15 = .ok (.astore_n 3, 1) := by decide +kernel
theorem dL_merge_16 : decode cL_merge 16 = .ok (.iconst 2, 1) := by decide +kernel
theorem dL_merge_17 : decode cL_merge 17 = .ok (.ireturn, 1) := by decide +kernel
theorem dL_merge_18 : decode cL_merge 18 = .ok (.iconst 0, 1) := by decide +kernel
theorem dL_merge_19 : decode cL_merge 19 = .ok (.ireturn, 1) := by decide +kernel
set_option maxRecDepth 20000 in
theorem ggL_snapshot_X2_snapshot : GoodIn wsL_snapshot wsX2_snapshot := goodIn_ca (goodIn_r _ [6, 7, 8, 9, 10, 11, 12, 13, 5, 14, 15, 16, 17, 18, 19, 20, 21, 22, 23, 24, 25, 26, 27, 28, 29, 30, 31, 32, 33, 34] (by decide +kernel) (by decide +kernel)) (goodIn_sub (fun _ h => List.mem_cons_of_mem _ (List.mem_append_right _ h)) (by decide +kernel))
set_option maxRecDepth 20000 in
theorem gL_snapshot_X2_snapshot : GoodIn wsL_snapshot (wsV RL 32 RX2 yX2_snapshot wsX2_snapshot) := goodIn_app (goodIn_of _ (by decide +kernel)) ggL_snapshot_X2_snapshot
theorem dL_snapshot_0 : decode cL_snapshot 0 = .ok (.aload_n 1, 1) := by decide +kernel
theorem dL_snapshot_1 : decode cL_snapshot 1 = .ok (.iconst 0, 1) := by decide +kernel
theorem dL_snapshot_2 : decode cL_snapshot 2 = .ok (.aload_n 0, 1) := by decide +kernel
theorem dL_snapshot_3 : decode cL_snapshot 3 = .ok (.invokevirtual 32, 3) := by decide +kernel
theorem dL_snapshot_6 : decode cL_snapshot 6 = .ok (.i2l, 1) := by decide +kernel
theorem dL_snapshot_7 : decode cL_snapshot 7 = .ok (.lastore, 1) := by decide +kernel
theorem dL_snapshot_8 : decode cL_snapshot 8 = .ok (.goto 6, 3) := by decide +kernel
theorem dL_snapshot_11 : decode cL_snapshot 11 = .ok (.astore_n 2, 1) := by decide +kernel
theorem dL_snapshot_12 : decode cL_snapshot 12 = .ok (.iconst 1, 1) := by decide +kernel
theorem dL_snapshot_13 : decode cL_snapshot 13 = .ok (.ireturn, 1) := by decide +kernel
theorem dL_snapshot_14 : decode cL_snapshot 14 = .ok (.iconst 0, 1) := by decide +kernel
theorem dL_snapshot_15 : decode cL_snapshot 15 = .ok (.ireturn, 1) := by decide +kernel
set_option maxRecDepth 20000 in
theorem ggL_release_X2_release : GoodIn wsL_release wsX2_release := goodIn_ca (goodIn_r _ [6, 7, 8, 9, 10, 11, 5, 12, 13, 14, 15, 16, 17, 18, 19, 20, 21, 22, 23, 24, 25, 26, 27, 28, 29, 30, 31, 32, 33] (by decide +kernel) (by decide +kernel)) (goodIn_sub (fun _ h => List.mem_cons_of_mem _ (List.mem_append_right _ h)) (by decide +kernel))
set_option maxRecDepth 20000 in
theorem gL_release_X2_release : GoodIn wsL_release (wsV RL 36 RX2 yX2_release wsX2_release) := goodIn_app (goodIn_of _ (by decide +kernel)) ggL_release_X2_release
theorem dL_release_0 : decode cL_release 0 = .ok (.aload_n 2, 1) := by decide +kernel
theorem dL_release_1 : decode cL_release 1 = .ok (.iconst 0, 1) := by decide +kernel
theorem dL_release_2 : decode cL_release 2 = .ok (.aload_n 0, 1) := by decide +kernel
theorem dL_release_3 : decode cL_release 3 = .ok (.iload_n 1, 1) := by decide +kernel
theorem dL_release_4 : decode cL_release 4 = .ok (.invokevirtual 36, 3) := by decide +kernel
theorem dL_release_7 : decode cL_release 7 = .ok (.i2l, 1) := by decide +kernel
theorem dL_release_8 : decode cL_release 8 = .ok (.lastore, 1) := by decide +kernel
theorem dL_release_9 : decode cL_release 9 = .ok (.goto 6, 3) := by decide +kernel
theorem dL_release_12 : decode cL_release 12 = .ok (.astore_n 3, 1) := by decide +kernel
theorem dL_release_13 : decode cL_release 13 = .ok (.iconst 1, 1) := by decide +kernel
theorem dL_release_14 : decode cL_release 14 = .ok (.ireturn, 1) := by decide +kernel
theorem dL_release_15 : decode cL_release 15 = .ok (.iconst 0, 1) := by decide +kernel
theorem dL_release_16 : decode cL_release 16 = .ok (.ireturn, 1) := by decide +kernel
set_option maxRecDepth 20000 in
theorem ggL_restore_X2_restore : GoodIn wsL_restore wsX2_restore := goodIn_ca (goodIn_r _ [6, 7, 8, 9, 10, 11, 5, 12, 13, 14, 15, 16, 17, 18, 19, 20, 21, 22, 23, 24, 25, 26, 27, 28, 29, 30, 31, 32, 33, 34, 35, 36, 37, 38, 39, 40, 41, 42, 43] (by decide +kernel) (by decide +kernel)) (goodIn_sub (fun _ h => List.mem_cons_of_mem _ (List.mem_append_right _ h)) (by decide +kernel))
set_option maxRecDepth 20000 in
theorem gL_restore_X2_restore : GoodIn wsL_restore (wsV RL 39 RX2 yX2_restore wsX2_restore) := goodIn_app (goodIn_of _ (by decide +kernel)) ggL_restore_X2_restore
theorem dL_restore_0 : decode cL_restore 0 = .ok (.aload_n 2, 1) := by decide +kernel
theorem dL_restore_1 : decode cL_restore 1 = .ok (.iconst 0, 1) := by decide +kernel
theorem dL_restore_2 : decode cL_restore 2 = .ok (.aload_n 0, 1) := by decide +kernel
theorem dL_restore_3 : decode cL_restore 3 = .ok (.iload_n 1, 1) := by decide +kernel
theorem dL_restore_4 : decode cL_restore 4 = .ok (.invokevirtual 39, 3) := by decide +kernel
theorem dL_restore_7 : decode cL_restore 7 = .ok (.i2l, 1) := by decide +kernel
theorem dL_restore_8 : decode cL_restore 8 = .ok (.lastore, 1) := by decide +kernel
theorem dL_restore_9 : decode cL_restore 9 = .ok (.goto 6, 3) := by decide +kernel
theorem dL_restore_12 : decode cL_restore 12 = .ok (.astore_n 3, 1) := by decide +kernel
theorem dL_restore_13 : decode cL_restore 13 = .ok (.iconst 1, 1) := by decide +kernel
theorem dL_restore_14 : decode cL_restore 14 = .ok (.ireturn, 1) := by decide +kernel
theorem dL_restore_15 : decode cL_restore 15 = .ok (.iconst 0, 1) := by decide +kernel
theorem dL_restore_16 : decode cL_restore 16 = .ok (.ireturn, 1) := by decide +kernel
set_option maxRecDepth 20000 in
theorem ggL_size_X2_size : GoodIn wsL_size wsX2_size := goodIn_ca (goodIn_r _ [6, 7, 8, 9, 10, 5, 11, 12, 13, 14, 15, 16, 17, 18, 19, 20, 21, 22, 23, 24, 25, 26] (by decide +kernel) (by decide +kernel)) (goodIn_sub (fun _ h => List.mem_cons_of_mem _ (List.mem_append_right _ h)) (by decide +kernel))
set_option maxRecDepth 20000 in
theorem gL_size_X2_size : GoodIn wsL_size (wsV RL 42 RX2 yX2_size wsX2_size) := goodIn_app (goodIn_of _ (by decide +kernel)) ggL_size_X2_size
theorem dL_size_0 : decode cL_size 0 = .ok (.aload_n 2, 1) := by decide +kernel
theorem dL_size_1 : decode cL_size 1 = .ok (.iconst 0, 1) := by decide +kernel
theorem dL_size_2 : decode cL_size 2 = .ok (.aload_n 0, 1) := by decide +kernel
theorem dL_size_3 : decode cL_size 3 = .ok (.iload_n 1, 1) := by decide +kernel
theorem dL_size_4 : decode cL_size 4 = .ok (.invokevirtual 42, 3) := by decide +kernel
theorem dL_size_7 : decode cL_size 7 = .ok (.i2l, 1) := by decide +kernel
theorem dL_size_8 : decode cL_size 8 = .ok (.lastore, 1) := by decide +kernel
theorem dL_size_9 : decode cL_size 9 = .ok (.goto 6, 3) := by decide +kernel
theorem dL_size_12 : decode cL_size 12 = .ok (.astore_n 3, 1) := by decide +kernel
theorem dL_size_13 : decode cL_size 13 = .ok (.iconst 1, 1) := by decide +kernel
theorem dL_size_14 : decode cL_size 14 = .ok (.ireturn, 1) := by decide +kernel
theorem dL_size_15 : decode cL_size 15 = .ok (.iconst 0, 1) := by decide +kernel
theorem dL_size_16 : decode cL_size 16 = .ok (.ireturn, 1) := by decide +kernel
set_option maxRecDepth 20000 in
theorem ggL_get_X2_get : GoodIn wsL_get wsX2_get := goodIn_ca (goodIn_ca (goodIn_r _ [7, 8, 9, 10, 11, 12, 13, 6, 14, 15, 16, 17, 18, 19, 20, 21, 22, 23, 24, 25, 26, 27, 28, 29, 30, 31, 32, 33, 34, 35, 36, 37, 38, 39, 40, 41, 42, 43, 44] (by decide +kernel) (by decide +kernel)) (goodIn_sub (fun _ h => List.mem_cons_of_mem _ (List.mem_append_left _ (List.mem_append_right _ h))) (by decide +kernel))) (goodIn_sub (fun _ h => List.mem_cons_of_mem _ (List.mem_append_right _ h)) (by decide +kernel))
set_option maxRecDepth 20000 in
theorem gL_get_X2_get : GoodIn wsL_get (wsV RL 45 RX2 yX2_get wsX2_get) := goodIn_app (goodIn_of _ (by decide +kernel)) ggL_get_X2_get
theorem dL_get_0 : decode cL_get 0 = .ok (.aload_n 3, 1) := by decide +kernel
theorem dL_get_1 : decode cL_get 1 = .ok (.iconst 0, 1) := by decide +kernel
theorem dL_get_2 : decode cL_get 2 = .ok (.aload_n 0, 1) := by decide +kernel
theorem dL_get_3 : decode cL_get 3 = .ok (.iload_n 1, 1) := by decide +kernel
theorem dL_get_4 : decode cL_get 4 = .ok (.iload_n 2, 1) := by decide +kernel
theorem dL_get_5 : decode cL_get 5 = .ok (.invokevirtual 45, 3) := by decide +kernel
theorem dL_get_8 : decode cL_get 8 = .ok (.i2l, 1) := by decide +kernel
theorem dL_get_9 : decode cL_get 9 = .ok (.lastore, 1) := by decide +kernel
theorem dL_get_10 : decode cL_get 10 = .ok (.goto 11, 3) := by decide +kernel
theorem dL_get_13 : decode cL_get 13 = .ok (.astore 4, 2) := by decide +kernel
theorem dL_get_15 : decode cL_get 15 = .ok (.iconst 1, 1) := by decide +kernel
theorem dL_get_16 : decode cL_get 16 = .ok (.ireturn, 1) := by decide +kernel
theorem dL_get_17 : decode cL_get 17 = .ok (.astore 4, 2) := by decide +kernel
theorem dL_get_19 : decode cL_get 19 = .ok (.iconst 2, 1) := by decide +kernel
theorem dL_get_20 : decode cL_get 20 = .ok (.ireturn, 1) := by decide +kernel
theorem dL_get_21 : decode cL_get 21 = .ok (.iconst 0, 1) := by decide +kernel
theorem dL_get_22 : decode cL_get 22 = .ok (.ireturn, 1) := by decide +kernel
set_option maxRecDepth 20000 in
theorem ggL_rank_X2_rank : GoodIn wsL_rank wsX2_rank := goodIn_ca (goodIn_r _ [6, 7, 8, 9, 5, 10, 11, 12, 13, 14, 15, 16, 17, 18, 19, 20, 21, 22, 23, 24, 25, 26, 27, 28, 29, 30, 31, 32] (by decide +kernel) (by decide +kernel)) (goodIn_sub (fun _ h => List.mem_cons_of_mem _ (List.mem_append_right _ h)) (by decide +kernel))
set_option maxRecDepth 20000 in
theorem gL_rank_X2_rank : GoodIn wsL_rank (wsV RL 49 RX2 yX2_rank wsX2_rank) := goodIn_app (goodIn_of _ (by decide +kernel)) ggL_rank_X2_rank
theorem dL_rank_0 : decode cL_rank 0 = .ok (.aload_n 3, 1) := by decide +kernel
theorem dL_rank_1 : decode cL_rank 1 = .ok (.iconst 0, 1) := by decide +kernel
theorem dL_rank_2 : decode cL_rank 2 = .ok (.aload_n 0, 1) := by decide +kernel
theorem dL_rank_3 : decode cL_rank 3 = .ok (.iload_n 1, 1) := by decide +kernel
theorem dL_rank_4 : decode cL_rank 4 = .ok (.iload_n 2, 1) := by decide +kernel
theorem dL_rank_5 : decode cL_rank 5 = .ok (.invokevirtual 49, 3) := by decide +kernel
theorem dL_rank_8 : decode cL_rank 8 = .ok (.i2l, 1) := by decide +kernel
theorem dL_rank_9 : decode cL_rank 9 = .ok (.lastore, 1) := by decide +kernel
theorem dL_rank_10 : decode cL_rank 10 = .ok (.goto 7, 3) := by decide +kernel
theorem dL_rank_13 : decode cL_rank 13 = .ok (.astore 4, 2) := by decide +kernel
theorem dL_rank_15 : decode cL_rank 15 = .ok (.iconst 1, 1) := by decide +kernel
theorem dL_rank_16 : decode cL_rank 16 = .ok (.ireturn, 1) := by decide +kernel
theorem dL_rank_17 : decode cL_rank 17 = .ok (.iconst 0, 1) := by decide +kernel
theorem dL_rank_18 : decode cL_rank 18 = .ok (.ireturn, 1) := by decide +kernel
set_option maxRecDepth 20000 in
theorem ggL_select_X2_select : GoodIn wsL_select wsX2_select := goodIn_ca (goodIn_ca (goodIn_r _ [7, 8, 9, 10, 6, 11, 12, 13, 14, 15, 16, 17, 18, 19, 20, 21, 22, 23, 24, 25, 26, 27, 28, 29, 30, 31, 32, 33, 34, 35, 36, 37, 38] (by decide +kernel) (by decide +kernel)) (goodIn_sub (fun _ h => List.mem_cons_of_mem _ (List.mem_append_left _ (List.mem_append_right _ h))) (by decide +kernel))) (goodIn_sub (fun _ h => List.mem_cons_of_mem _ (List.mem_append_right _ h)) (by decide +kernel))
set_option maxRecDepth 20000 in
theorem gL_select_X2_select : GoodIn wsL_select (wsV RL 52 RX2 yX2_select wsX2_select) := goodIn_app (goodIn_of _ (by decide +kernel)) ggL_select_X2_select
theorem dL_select_0 : decode cL_select 0 = .ok (.aload_n 3, 1) := by decide +kernel
theorem dL_select_1 : decode cL_select 1 = .ok (.iconst 0, 1) := by decide +kernel
theorem dL_select_2 : decode cL_select 2 = .ok (.aload_n 0, 1) := by decide +kernel
theorem dL_select_3 : decode cL_select 3 = .ok (.iload_n 1, 1) := by decide +kernel
theorem dL_select_4 : decode cL_select 4 = .ok (.iload_n 2, 1) := by decide +kernel
theorem dL_select_5 : decode cL_select 5 = .ok (.invokevirtual 52, 3) := by decide +kernel
theorem dL_select_8 : decode cL_select 8 = .ok (.i2l, 1) := by decide +kernel
theorem dL_select_9 : decode cL_select 9 = .ok (.lastore, 1) := by decide +kernel
theorem dL_select_10 : decode cL_select 10 = .ok (.goto 11, 3) := by decide +kernel
theorem dL_select_13 : decode cL_select 13 = .ok (.astore 4, 2) := by decide +kernel
theorem dL_select_15 : decode cL_select 15 = .ok (.iconst 1, 1) := by decide +kernel
theorem dL_select_16 : decode cL_select 16 = .ok (.ireturn, 1) := by decide +kernel
theorem dL_select_17 : decode cL_select 17 = .ok (.astore 4, 2) := by decide +kernel
theorem dL_select_19 : decode cL_select 19 = .ok (.iconst 2, 1) := by decide +kernel
theorem dL_select_20 : decode cL_select 20 = .ok (.ireturn, 1) := by decide +kernel
theorem dL_select_21 : decode cL_select 21 = .ok (.iconst 0, 1) := by decide +kernel
theorem dL_select_22 : decode cL_select 22 = .ok (.ireturn, 1) := by decide +kernel
set_option maxRecDepth 20000 in
theorem ggL_near_X2_near : GoodIn wsL_near wsX2_near := goodIn_ca (goodIn_ca (goodIn_r _ [7, 8, 9, 10, 6, 11, 12, 13, 14, 15, 16, 17, 18, 19, 20, 21, 22, 23, 24, 25, 26, 27, 28, 29, 30, 31, 32, 33, 34, 35, 36, 37, 38, 39, 40, 41, 42, 43, 44, 45, 46, 47, 48, 49, 50, 51, 52, 53, 54, 55, 56] (by decide +kernel) (by decide +kernel)) (goodIn_sub (fun _ h => List.mem_cons_of_mem _ (List.mem_append_left _ (List.mem_append_right _ h))) (by decide +kernel))) (goodIn_sub (fun _ h => List.mem_cons_of_mem _ (List.mem_append_right _ h)) (by decide +kernel))
set_option maxRecDepth 20000 in
theorem gL_near_X2_near : GoodIn wsL_near (wsV RL 55 RX2 yX2_near wsX2_near) := goodIn_app (goodIn_of _ (by decide +kernel)) ggL_near_X2_near
theorem dL_near_0 : decode cL_near 0 = .ok (.aload 4, 2) := by decide +kernel
theorem dL_near_2 : decode cL_near 2 = .ok (.iconst 0, 1) := by decide +kernel
theorem dL_near_3 : decode cL_near 3 = .ok (.aload_n 0, 1) := by decide +kernel
theorem dL_near_4 : decode cL_near 4 = .ok (.iload_n 1, 1) := by decide +kernel
theorem dL_near_5 : decode cL_near 5 = .ok (.iload_n 2, 1) := by decide +kernel
theorem dL_near_6 : decode cL_near 6 = .ok (.iload_n 3, 1) := by decide +kernel
theorem dL_near_7 : decode cL_near 7 = .ok (.invokevirtual 55, 3) := by decide +kernel
theorem dL_near_10 : decode cL_near 10 = .ok (.i2l, 1) := by decide +kernel
theorem dL_near_11 : decode cL_near 11 = .ok (.lastore, 1) := by decide +kernel
theorem dL_near_12 : decode cL_near 12 = .ok (.goto 11, 3) := by decide +kernel
theorem dL_near_15 : decode cL_near 15 = .ok (.astore 5, 2) := by decide +kernel
theorem dL_near_17 : decode cL_near 17 = .ok (.iconst 1, 1) := by decide +kernel
theorem dL_near_18 : decode cL_near 18 = .ok (.ireturn, 1) := by decide +kernel
theorem dL_near_19 : decode cL_near 19 = .ok (.astore 5, 2) := by decide +kernel
theorem dL_near_21 : decode cL_near 21 = .ok (.iconst 2, 1) := by decide +kernel
theorem dL_near_22 : decode cL_near 22 = .ok (.ireturn, 1) := by decide +kernel
theorem dL_near_23 : decode cL_near 23 = .ok (.iconst 0, 1) := by decide +kernel
theorem dL_near_24 : decode cL_near 24 = .ok (.ireturn, 1) := by decide +kernel
set_option maxRecDepth 20000 in
theorem ggL_sum_X2_sum : GoodIn wsL_sum wsX2_sum := goodIn_ca (goodIn_r _ [6, 7, 8, 9, 10, 5, 11, 12, 13, 14, 15, 16, 17, 18, 19, 20, 21, 22, 23, 24, 25, 26, 27, 28, 29, 30, 31, 32, 33, 34, 35, 36, 37, 38, 39, 40, 41, 42, 43, 44, 45, 46] (by decide +kernel) (by decide +kernel)) (goodIn_sub (fun _ h => List.mem_cons_of_mem _ (List.mem_append_right _ h)) (by decide +kernel))
set_option maxRecDepth 20000 in
theorem gL_sum_X2_sum : GoodIn wsL_sum (wsV RL 59 RX2 yX2_sum wsX2_sum) := goodIn_app (goodIn_of _ (by decide +kernel)) ggL_sum_X2_sum
theorem dL_sum_0 : decode cL_sum 0 = .ok (.aload 4, 2) := by decide +kernel
theorem dL_sum_2 : decode cL_sum 2 = .ok (.iconst 0, 1) := by decide +kernel
theorem dL_sum_3 : decode cL_sum 3 = .ok (.aload_n 0, 1) := by decide +kernel
theorem dL_sum_4 : decode cL_sum 4 = .ok (.iload_n 1, 1) := by decide +kernel
theorem dL_sum_5 : decode cL_sum 5 = .ok (.iload_n 2, 1) := by decide +kernel
theorem dL_sum_6 : decode cL_sum 6 = .ok (.iload_n 3, 1) := by decide +kernel
theorem dL_sum_7 : decode cL_sum 7 = .ok (.invokevirtual 59, 3) := by decide +kernel
theorem dL_sum_10 : decode cL_sum 10 = .ok (.lastore, 1) := by decide +kernel
theorem dL_sum_11 : decode cL_sum 11 = .ok (.goto 7, 3) := by decide +kernel
theorem dL_sum_14 : decode cL_sum 14 = .ok (.astore 5, 2) := by decide +kernel
theorem dL_sum_16 : decode cL_sum 16 = .ok (.iconst 1, 1) := by decide +kernel
theorem dL_sum_17 : decode cL_sum 17 = .ok (.ireturn, 1) := by decide +kernel
theorem dL_sum_18 : decode cL_sum 18 = .ok (.iconst 0, 1) := by decide +kernel
theorem dL_sum_19 : decode cL_sum 19 = .ok (.ireturn, 1) := by decide +kernel
set_option maxRecDepth 20000 in
theorem ggL_greatest_X2_greatest : GoodIn wsL_greatest wsX2_greatest := goodIn_ca (goodIn_ca (goodIn_r _ [7, 8, 9, 10, 11, 12, 13, 14, 15, 16, 17, 6, 18, 19, 20, 21, 22, 23, 24, 25, 26, 27, 28, 29, 30, 31, 32, 33, 34, 35, 36, 37, 38, 39, 40, 41, 42, 43, 44, 45, 46, 47, 48, 49, 50, 51, 52, 53] (by decide +kernel) (by decide +kernel)) (goodIn_sub (fun _ h => List.mem_cons_of_mem _ (List.mem_append_left _ (List.mem_append_right _ h))) (by decide +kernel))) (goodIn_sub (fun _ h => List.mem_cons_of_mem _ (List.mem_append_right _ h)) (by decide +kernel))
set_option maxRecDepth 20000 in
theorem gL_greatest_X2_greatest : GoodIn wsL_greatest (wsV RL 63 RX2 yX2_greatest wsX2_greatest) := goodIn_app (goodIn_of _ (by decide +kernel)) ggL_greatest_X2_greatest
theorem dL_greatest_0 : decode cL_greatest 0 = .ok (.aload 4, 2) := by decide +kernel
theorem dL_greatest_2 : decode cL_greatest 2 = .ok (.iconst 0, 1) := by decide +kernel
theorem dL_greatest_3 : decode cL_greatest 3 = .ok (.aload_n 0, 1) := by decide +kernel
theorem dL_greatest_4 : decode cL_greatest 4 = .ok (.iload_n 1, 1) := by decide +kernel
theorem dL_greatest_5 : decode cL_greatest 5 = .ok (.iload_n 2, 1) := by decide +kernel
theorem dL_greatest_6 : decode cL_greatest 6 = .ok (.iload_n 3, 1) := by decide +kernel
theorem dL_greatest_7 : decode cL_greatest 7 = .ok (.invokevirtual 63, 3) := by decide +kernel
theorem dL_greatest_10 : decode cL_greatest 10 = .ok (.i2l, 1) := by decide +kernel
theorem dL_greatest_11 : decode cL_greatest 11 = .ok (.lastore, 1) := by decide +kernel
theorem dL_greatest_12 : decode cL_greatest 12 = .ok (.goto 11, 3) := by decide +kernel
theorem dL_greatest_15 : decode cL_greatest 15 = .ok (.astore 5, 2) := by decide +kernel
theorem dL_greatest_17 : decode cL_greatest 17 = .ok (.iconst 1, 1) := by decide +kernel
theorem dL_greatest_18 : decode cL_greatest 18 = .ok (.ireturn, 1) := by decide +kernel
theorem dL_greatest_19 : decode cL_greatest 19 = .ok (.astore 5, 2) := by decide +kernel
theorem dL_greatest_21 : decode cL_greatest 21 = .ok (.iconst 2, 1) := by decide +kernel
theorem dL_greatest_22 : decode cL_greatest 22 = .ok (.ireturn, 1) := by decide +kernel
theorem dL_greatest_23 : decode cL_greatest 23 = .ok (.iconst 0, 1) := by decide +kernel
theorem dL_greatest_24 : decode cL_greatest 24 = .ok (.ireturn, 1) := by decide +kernel
set_option maxRecDepth 20000 in
theorem ggL_differs_X2_differs : GoodIn wsL_differs wsX2_differs := goodIn_ca (goodIn_r _ [6, 7, 8, 9, 10, 5, 11, 12, 13, 14, 15, 16, 17, 18, 19, 20, 21, 22, 23, 24, 25, 26, 27, 28, 29, 30, 31, 32, 33, 34, 35, 36, 37, 38, 39, 40, 41, 42] (by decide +kernel) (by decide +kernel)) (goodIn_sub (fun _ h => List.mem_cons_of_mem _ (List.mem_append_right _ h)) (by decide +kernel))
set_option maxRecDepth 20000 in
theorem gL_differs_X2_differs : GoodIn wsL_differs (wsV RL 67 RX2 yX2_differs wsX2_differs) := goodIn_app (goodIn_of _ (by decide +kernel)) ggL_differs_X2_differs
theorem dL_differs_0 : decode cL_differs 0 = .ok (.aload_n 3, 1) := by decide +kernel
theorem dL_differs_1 : decode cL_differs 1 = .ok (.iconst 0, 1) := by decide +kernel
theorem dL_differs_2 : decode cL_differs 2 = .ok (.aload_n 0, 1) := by decide +kernel
theorem dL_differs_3 : decode cL_differs 3 = .ok (.iload_n 1, 1) := by decide +kernel
theorem dL_differs_4 : decode cL_differs 4 = .ok (.iload_n 2, 1) := by decide +kernel
theorem dL_differs_5 : decode cL_differs 5 = .ok (.invokevirtual 67, 3) := by decide +kernel
theorem dL_differs_8 : decode cL_differs 8 = .ok (.i2l, 1) := by decide +kernel
theorem dL_differs_9 : decode cL_differs 9 = .ok (.lastore, 1) := by decide +kernel
theorem dL_differs_10 : decode cL_differs 10 = .ok (.goto 7, 3) := by decide +kernel
theorem dL_differs_13 : decode cL_differs 13 = .ok (.astore 4, 2) := by decide +kernel
theorem dL_differs_15 : decode cL_differs 15 = .ok (.iconst 1, 1) := by decide +kernel
theorem dL_differs_16 : decode cL_differs 16 = .ok (.ireturn, 1) := by decide +kernel
theorem dL_differs_17 : decode cL_differs 17 = .ok (.iconst 0, 1) := by decide +kernel
theorem dL_differs_18 : decode cL_differs 18 = .ok (.ireturn, 1) := by decide +kernel
set_option maxRecDepth 20000 in
theorem ggL_firstDifference_X2_firstDifference : GoodIn wsL_firstDifference wsX2_firstDifference := goodIn_ca (goodIn_ca (goodIn_r _ [7, 8, 9, 10, 11, 12, 13, 14, 15, 16, 6, 17, 18, 19, 20, 21, 22, 23, 24, 25, 26, 27, 28, 29, 30, 31, 32, 33, 34, 35, 36, 37, 38, 39, 40, 41, 42, 43, 44, 45, 46, 47, 48, 49, 50] (by decide +kernel) (by decide +kernel)) (goodIn_sub (fun _ h => List.mem_cons_of_mem _ (List.mem_append_left _ (List.mem_append_right _ h))) (by decide +kernel))) (goodIn_sub (fun _ h => List.mem_cons_of_mem _ (List.mem_append_right _ h)) (by decide +kernel))
set_option maxRecDepth 20000 in
theorem gL_firstDifference_X2_firstDifference : GoodIn wsL_firstDifference (wsV RL 70 RX2 yX2_firstDifference wsX2_firstDifference) := goodIn_app (goodIn_of _ (by decide +kernel)) ggL_firstDifference_X2_firstDifference
theorem dL_firstDifference_0 : decode cL_firstDifference 0 = .ok (.aload_n 3, 1) := by decide +kernel
theorem dL_firstDifference_1 : decode cL_firstDifference 1 = .ok (.iconst 0, 1) := by decide +kernel
theorem dL_firstDifference_2 : decode cL_firstDifference 2 = .ok (.aload_n 0, 1) := by decide +kernel
theorem dL_firstDifference_3 : decode cL_firstDifference 3 = .ok (.iload_n 1, 1) := by decide +kernel
theorem dL_firstDifference_4 : decode cL_firstDifference 4 = .ok (.iload_n 2, 1) := by decide +kernel
theorem dL_firstDifference_5 : decode cL_firstDifference 5 = .ok (.invokevirtual 70, 3) := by decide +kernel
theorem dL_firstDifference_8 : decode cL_firstDifference 8 = .ok (.i2l, 1) := by decide +kernel
theorem dL_firstDifference_9 : decode cL_firstDifference 9 = .ok (.lastore, 1) := by decide +kernel
theorem dL_firstDifference_10 : decode cL_firstDifference 10 = .ok (.goto 11, 3) := by decide +kernel
theorem dL_firstDifference_13 : decode cL_firstDifference 13 = .ok (.astore 4, 2) := by decide +kernel
theorem dL_firstDifference_15 : decode cL_firstDifference 15 = .ok (.iconst 1, 1) := by decide +kernel
theorem dL_firstDifference_16 : decode cL_firstDifference 16 = .ok (.ireturn, 1) := by decide +kernel
theorem dL_firstDifference_17 : decode cL_firstDifference 17 = .ok (.astore 4, 2) := by decide +kernel
theorem dL_firstDifference_19 : decode cL_firstDifference 19 = .ok (.iconst 2, 1) := by decide +kernel
theorem dL_firstDifference_20 : decode cL_firstDifference 20 = .ok (.ireturn, 1) := by decide +kernel
theorem dL_firstDifference_21 : decode cL_firstDifference 21 = .ok (.iconst 0, 1) := by decide +kernel
theorem dL_firstDifference_22 : decode cL_firstDifference 22 = .ok (.ireturn, 1) := by decide +kernel
set_option maxRecDepth 20000 in
theorem ggL_open_X2_open : GoodIn wsL_open wsX2_open := goodIn_ca (goodIn_ca (goodIn_r _ [7, 8, 9, 10, 11, 12, 13, 14, 6, 15, 16, 17, 18, 19, 20, 21, 22, 23, 24, 25, 26, 27, 28, 29, 30, 31, 32, 33, 34, 35, 36, 37, 38, 39, 40, 41, 42, 43, 44, 45, 46, 47, 48, 49, 50, 51, 52, 53, 54, 55, 56, 57, 58, 59, 60, 61, 62, 63, 64, 65, 66, 67, 68, 69, 70, 71, 72, 73, 74, 75, 76] (by decide +kernel) (by decide +kernel)) (goodIn_sub (fun _ h => List.mem_cons_of_mem _ (List.mem_append_left _ (List.mem_append_right _ h))) (by decide +kernel))) (goodIn_sub (fun _ h => List.mem_cons_of_mem _ (List.mem_append_right _ h)) (by decide +kernel))
set_option maxRecDepth 20000 in
theorem gL_open_X2_open : GoodIn wsL_open (wsV RL 73 RX2 yX2_open wsX2_open) := goodIn_app (goodIn_of _ (by decide +kernel)) ggL_open_X2_open
theorem dL_open_0 : decode cL_open 0 = .ok (.aload 4, 2) := by decide +kernel
theorem dL_open_2 : decode cL_open 2 = .ok (.iconst 0, 1) := by decide +kernel
theorem dL_open_3 : decode cL_open 3 = .ok (.aload_n 0, 1) := by decide +kernel
theorem dL_open_4 : decode cL_open 4 = .ok (.iload_n 1, 1) := by decide +kernel
theorem dL_open_5 : decode cL_open 5 = .ok (.iload_n 2, 1) := by decide +kernel
theorem dL_open_6 : decode cL_open 6 = .ok (.iload_n 3, 1) := by decide +kernel
theorem dL_open_7 : decode cL_open 7 = .ok (.invokevirtual 73, 3) := by decide +kernel
theorem dL_open_10 : decode cL_open 10 = .ok (.i2l, 1) := by decide +kernel
theorem dL_open_11 : decode cL_open 11 = .ok (.lastore, 1) := by decide +kernel
theorem dL_open_12 : decode cL_open 12 = .ok (.goto 11, 3) := by decide +kernel
theorem dL_open_15 : decode cL_open 15 = .ok (.astore 5, 2) := by decide +kernel
theorem dL_open_17 : decode cL_open 17 = .ok (.iconst 1, 1) := by decide +kernel
theorem dL_open_18 : decode cL_open 18 = .ok (.ireturn, 1) := by decide +kernel
theorem dL_open_19 : decode cL_open 19 = .ok (.astore 5, 2) := by decide +kernel
theorem dL_open_21 : decode cL_open 21 = .ok (.iconst 2, 1) := by decide +kernel
theorem dL_open_22 : decode cL_open 22 = .ok (.ireturn, 1) := by decide +kernel
theorem dL_open_23 : decode cL_open 23 = .ok (.iconst 0, 1) := by decide +kernel
theorem dL_open_24 : decode cL_open 24 = .ok (.ireturn, 1) := by decide +kernel
set_option maxRecDepth 20000 in
theorem ggL_next_X2_next : GoodIn wsL_next wsX2_next := goodIn_ca (goodIn_ca (goodIn_r _ [7, 8, 9, 10, 11, 12, 6, 13, 14, 15, 16, 17, 18, 19, 20, 21, 22, 23, 24, 25, 26, 27, 28, 29, 30, 31, 32, 33, 34, 35, 36, 37, 38, 39, 40, 41, 42, 43, 44, 45, 46, 47, 48, 49, 50] (by decide +kernel) (by decide +kernel)) (goodIn_sub (fun _ h => List.mem_cons_of_mem _ (List.mem_append_left _ (List.mem_append_right _ h))) (by decide +kernel))) (goodIn_sub (fun _ h => List.mem_cons_of_mem _ (List.mem_append_right _ h)) (by decide +kernel))
set_option maxRecDepth 20000 in
theorem gL_next_X2_next : GoodIn wsL_next (wsV RL 76 RX2 yX2_next wsX2_next) := goodIn_app (goodIn_of _ (by decide +kernel)) ggL_next_X2_next
theorem dL_next_0 : decode cL_next 0 = .ok (.aload_n 2, 1) := by decide +kernel
theorem dL_next_1 : decode cL_next 1 = .ok (.iconst 0, 1) := by decide +kernel
theorem dL_next_2 : decode cL_next 2 = .ok (.aload_n 0, 1) := by decide +kernel
theorem dL_next_3 : decode cL_next 3 = .ok (.iload_n 1, 1) := by decide +kernel
theorem dL_next_4 : decode cL_next 4 = .ok (.invokevirtual 76, 3) := by decide +kernel
theorem dL_next_7 : decode cL_next 7 = .ok (.i2l, 1) := by decide +kernel
theorem dL_next_8 : decode cL_next 8 = .ok (.lastore, 1) := by decide +kernel
theorem dL_next_9 : decode cL_next 9 = .ok (.goto 9, 3) := by decide +kernel
theorem dL_next_12 : decode cL_next 12 = .ok (.astore_n 3, 1) := by decide +kernel
theorem dL_next_13 : decode cL_next 13 = .ok (.iconst 1, 1) := by decide +kernel
theorem dL_next_14 : decode cL_next 14 = .ok (.ireturn, 1) := by decide +kernel
theorem dL_next_15 : decode cL_next 15 = .ok (.astore_n 3, 1) := by decide +kernel
theorem dL_next_16 : decode cL_next 16 = .ok (.iconst 2, 1) := by decide +kernel
theorem dL_next_17 : decode cL_next 17 = .ok (.ireturn, 1) := by decide +kernel
theorem dL_next_18 : decode cL_next 18 = .ok (.iconst 0, 1) := by decide +kernel
theorem dL_next_19 : decode cL_next 19 = .ok (.ireturn, 1) := by decide +kernel
set_option maxRecDepth 20000 in
theorem ggL_skip_X2_skip : GoodIn wsL_skip wsX2_skip := goodIn_ca (goodIn_ca (goodIn_r _ [7, 8, 9, 10, 11, 12, 13, 14, 15, 16, 6, 17, 18, 19, 20, 21, 22, 23, 24, 25, 26, 27, 28, 29, 30, 31, 32, 33, 34, 35, 36, 37, 38, 39, 40, 41, 42, 43, 44, 45, 46, 47, 48] (by decide +kernel) (by decide +kernel)) (goodIn_sub (fun _ h => List.mem_cons_of_mem _ (List.mem_append_left _ (List.mem_append_right _ h))) (by decide +kernel))) (goodIn_sub (fun _ h => List.mem_cons_of_mem _ (List.mem_append_right _ h)) (by decide +kernel))
set_option maxRecDepth 20000 in
theorem gL_skip_X2_skip : GoodIn wsL_skip (wsV RL 79 RX2 yX2_skip wsX2_skip) := goodIn_app (goodIn_of _ (by decide +kernel)) ggL_skip_X2_skip
theorem dL_skip_0 : decode cL_skip 0 = .ok (.aload_n 3, 1) := by decide +kernel
theorem dL_skip_1 : decode cL_skip 1 = .ok (.iconst 0, 1) := by decide +kernel
theorem dL_skip_2 : decode cL_skip 2 = .ok (.aload_n 0, 1) := by decide +kernel
theorem dL_skip_3 : decode cL_skip 3 = .ok (.iload_n 1, 1) := by decide +kernel
theorem dL_skip_4 : decode cL_skip 4 = .ok (.iload_n 2, 1) := by decide +kernel
theorem dL_skip_5 : decode cL_skip 5 = .ok (.invokevirtual 79, 3) := by decide +kernel
theorem dL_skip_8 : decode cL_skip 8 = .ok (.i2l, 1) := by decide +kernel
theorem dL_skip_9 : decode cL_skip 9 = .ok (.lastore, 1) := by decide +kernel
theorem dL_skip_10 : decode cL_skip 10 = .ok (.goto 11, 3) := by decide +kernel
theorem dL_skip_13 : decode cL_skip 13 = .ok (.astore 4, 2) := by decide +kernel
theorem dL_skip_15 : decode cL_skip 15 = .ok (.iconst 1, 1) := by decide +kernel
theorem dL_skip_16 : decode cL_skip 16 = .ok (.ireturn, 1) := by decide +kernel
theorem dL_skip_17 : decode cL_skip 17 = .ok (.astore 4, 2) := by decide +kernel
theorem dL_skip_19 : decode cL_skip 19 = .ok (.iconst 2, 1) := by decide +kernel
theorem dL_skip_20 : decode cL_skip 20 = .ok (.ireturn, 1) := by decide +kernel
theorem dL_skip_21 : decode cL_skip 21 = .ok (.iconst 0, 1) := by decide +kernel
theorem dL_skip_22 : decode cL_skip 22 = .ok (.ireturn, 1) := by decide +kernel
set_option maxRecDepth 20000 in
theorem ggL_peek_X2_peek : GoodIn wsL_peek wsX2_peek := goodIn_ca (goodIn_ca (goodIn_r _ [7, 8, 9, 10, 11, 12, 13, 14, 15, 6, 16, 17, 18, 19, 20, 21, 22, 23, 24, 25, 26, 27, 28, 29, 30, 31, 32, 33, 34, 35, 36, 37, 38, 39, 40] (by decide +kernel) (by decide +kernel)) (goodIn_sub (fun _ h => List.mem_cons_of_mem _ (List.mem_append_left _ (List.mem_append_right _ h))) (by decide +kernel))) (goodIn_sub (fun _ h => List.mem_cons_of_mem _ (List.mem_append_right _ h)) (by decide +kernel))
set_option maxRecDepth 20000 in
theorem gL_peek_X2_peek : GoodIn wsL_peek (wsV RL 82 RX2 yX2_peek wsX2_peek) := goodIn_app (goodIn_of _ (by decide +kernel)) ggL_peek_X2_peek
theorem dL_peek_0 : decode cL_peek 0 = .ok (.aload_n 2, 1) := by decide +kernel
theorem dL_peek_1 : decode cL_peek 1 = .ok (.iconst 0, 1) := by decide +kernel
theorem dL_peek_2 : decode cL_peek 2 = .ok (.aload_n 0, 1) := by decide +kernel
theorem dL_peek_3 : decode cL_peek 3 = .ok (.iload_n 1, 1) := by decide +kernel
theorem dL_peek_4 : decode cL_peek 4 = .ok (.invokevirtual 82, 3) := by decide +kernel
theorem dL_peek_7 : decode cL_peek 7 = .ok (.i2l, 1) := by decide +kernel
theorem dL_peek_8 : decode cL_peek 8 = .ok (.lastore, 1) := by decide +kernel
theorem dL_peek_9 : decode cL_peek 9 = .ok (.goto 9, 3) := by decide +kernel
theorem dL_peek_12 : decode cL_peek 12 = .ok (.astore_n 3, 1) := by decide +kernel
theorem dL_peek_13 : decode cL_peek 13 = .ok (.iconst 1, 1) := by decide +kernel
theorem dL_peek_14 : decode cL_peek 14 = .ok (.ireturn, 1) := by decide +kernel
theorem dL_peek_15 : decode cL_peek 15 = .ok (.astore_n 3, 1) := by decide +kernel
theorem dL_peek_16 : decode cL_peek 16 = .ok (.iconst 2, 1) := by decide +kernel
theorem dL_peek_17 : decode cL_peek 17 = .ok (.ireturn, 1) := by decide +kernel
theorem dL_peek_18 : decode cL_peek 18 = .ok (.iconst 0, 1) := by decide +kernel
theorem dL_peek_19 : decode cL_peek 19 = .ok (.ireturn, 1) := by decide +kernel
set_option maxRecDepth 20000 in
theorem ggL_close_X2_close : GoodIn wsL_close wsX2_close := goodIn_ca (goodIn_r _ [6, 7, 8, 9, 10, 5, 11, 12, 13, 14, 15, 16, 17, 18, 19, 20, 21, 22, 23, 24, 25, 26, 27, 28, 29, 30, 31, 32, 33, 34, 35, 36, 37, 38, 39] (by decide +kernel) (by decide +kernel)) (goodIn_sub (fun _ h => List.mem_cons_of_mem _ (List.mem_append_right _ h)) (by decide +kernel))
set_option maxRecDepth 20000 in
theorem gL_close_X2_close : GoodIn wsL_close (wsV RL 85 RX2 yX2_close wsX2_close) := goodIn_app (goodIn_of _ (by decide +kernel)) ggL_close_X2_close
theorem dL_close_0 : decode cL_close 0 = .ok (.aload_n 2, 1) := by decide +kernel
theorem dL_close_1 : decode cL_close 1 = .ok (.iconst 0, 1) := by decide +kernel
theorem dL_close_2 : decode cL_close 2 = .ok (.aload_n 0, 1) := by decide +kernel
theorem dL_close_3 : decode cL_close 3 = .ok (.iload_n 1, 1) := by decide +kernel
theorem dL_close_4 : decode cL_close 4 = .ok (.invokevirtual 85, 3) := by decide +kernel
theorem dL_close_7 : decode cL_close 7 = .ok (.i2l, 1) := by decide +kernel
theorem dL_close_8 : decode cL_close 8 = .ok (.lastore, 1) := by decide +kernel
theorem dL_close_9 : decode cL_close 9 = .ok (.goto 6, 3) := by decide +kernel
theorem dL_close_12 : decode cL_close 12 = .ok (.astore_n 3, 1) := by decide +kernel
theorem dL_close_13 : decode cL_close 13 = .ok (.iconst 1, 1) := by decide +kernel
theorem dL_close_14 : decode cL_close 14 = .ok (.ireturn, 1) := by decide +kernel
theorem dL_close_15 : decode cL_close 15 = .ok (.iconst 0, 1) := by decide +kernel
theorem dL_close_16 : decode cL_close 16 = .ok (.ireturn, 1) := by decide +kernel
end
section
set_option maxRecDepth 20000 in
theorem ggL_law_X2_init : GoodIn wsL_law wsX2_init := goodIn_r _ [9, 10, 11, 12, 13, 14, 15, 16, 17, 18, 19, 20, 21, 22, 23, 24, 25, 26, 27, 28, 29, 30, 31, 32, 33, 34, 35, 510, 511, 512, 498, 499, 500, 501, 502, 513, 514, 515] (by decide +kernel) (by decide +kernel)
set_option maxRecDepth 20000 in
theorem gL_law_X2_init : GoodIn wsL_law (wsX2_init) := ggL_law_X2_init
set_option maxRecDepth 20000 in
theorem ggL_law_X3_init : GoodIn wsL_law wsX3_init := goodIn_r _ [38, 39, 11, 12, 28, 40, 41, 42, 18, 43, 44, 45, 503, 504, 505, 506, 507, 508, 509] (by decide +kernel) (by decide +kernel)
set_option maxRecDepth 20000 in
theorem gL_law_X3_init : GoodIn wsL_law (wsX3_init) := ggL_law_X3_init
set_option maxRecDepth 20000 in
theorem ggL_law_L_put : GoodIn wsL_law wsL_put := goodIn_ca (goodIn_r _ [49, 50, 51, 52, 53, 2, 54, 55, 56, 16, 57, 58, 59, 60, 61, 15, 62, 63, 29, 64, 65, 66, 67, 68, 69, 70, 71, 72, 73, 74, 75, 76, 77, 78, 79, 30, 498, 499, 500, 501, 502, 510, 511, 512] (by decide +kernel) (by decide +kernel)) (goodIn_sub (fun _ h => List.mem_append_left _ (List.mem_append_left _ (List.mem_append_left _ (List.mem_append_right _ h)))) (by decide +kernel))
set_option maxRecDepth 20000 in
theorem gL_law_L_put : GoodIn wsL_law (va_wsS RL 92 yL_put wsL_put) := goodIn_app (goodIn_of _ (by decide +kernel)) ggL_law_L_put
set_option maxRecDepth 20000 in
theorem ggL_law_X3_put : GoodIn wsL_law wsX3_put := goodIn_r _ [83, 42, 84, 41, 85, 86, 87, 5, 88, 40, 89, 90, 91, 92, 93, 94, 95, 96, 503, 504, 505, 506, 507, 508, 509] (by decide +kernel) (by decide +kernel)
set_option maxRecDepth 20000 in
theorem gL_law_X3_put : GoodIn wsL_law (wsV RL 97 RX3 yX3_put wsX3_put) := goodIn_app (goodIn_of _ (by decide +kernel)) ggL_law_X3_put
set_option maxRecDepth 20000 in
theorem ggL_law_X3_thrown : GoodIn wsL_law wsX3_thrown := goodIn_r _ [100, 84, 503, 504, 505, 506, 507, 508, 509] (by decide +kernel) (by decide +kernel)
set_option maxRecDepth 20000 in
theorem gL_law_X3_thrown : GoodIn wsL_law (wsV RL 98 RX3 yX3_thrown wsX3_thrown) := goodIn_app (goodIn_of _ (by decide +kernel)) ggL_law_X3_thrown
set_option maxRecDepth 20000 in
theorem ggL_law_L_remove : GoodIn wsL_law wsL_remove := goodIn_ca (goodIn_r _ [103, 104, 105, 106, 107, 2, 108, 109, 110, 16, 57, 59, 60, 61, 15, 62, 63, 29, 64, 65, 66, 67, 68, 69, 70, 71, 111, 112, 113, 114, 76, 77, 78, 79, 30, 498, 499, 500, 501, 502, 510, 511, 512] (by decide +kernel) (by decide +kernel)) (goodIn_sub (fun _ h => List.mem_append_left _ (List.mem_append_left _ (List.mem_append_right _ h))) (by decide +kernel))
set_option maxRecDepth 20000 in
theorem gL_law_L_remove : GoodIn wsL_law (va_wsS RL 101 yL_remove wsL_remove) := goodIn_app (goodIn_of _ (by decide +kernel)) ggL_law_L_remove
set_option maxRecDepth 20000 in
theorem ggL_law_X3_remove : GoodIn wsL_law wsX3_remove := goodIn_r _ [118, 84, 41, 85, 86, 87, 5, 88, 42, 40, 89, 90, 91, 92, 119, 120, 121, 122, 503, 504, 505, 506, 507, 508, 509] (by decide +kernel) (by decide +kernel)
set_option maxRecDepth 20000 in
theorem gL_law_X3_remove : GoodIn wsL_law (wsV RL 104 RX3 yX3_remove wsX3_remove) := goodIn_app (goodIn_of _ (by decide +kernel)) ggL_law_X3_remove
set_option maxRecDepth 20000 in
theorem ggL_law_L_load : GoodIn wsL_law wsL_load := goodIn_ca (goodIn_r _ [125, 126, 127, 128, 129, 2, 130, 131, 132, 133, 16, 58, 134, 135, 136, 15, 137, 29, 30, 63, 498, 499, 500, 501, 502, 510, 511, 512] (by decide +kernel) (by decide +kernel)) (goodIn_sub (fun _ h => List.mem_append_left _ (List.mem_append_right _ h)) (by decide +kernel))
set_option maxRecDepth 20000 in
theorem gL_law_L_load : GoodIn wsL_law (va_wsS RL 105 yL_load wsL_load) := goodIn_app (goodIn_of _ (by decide +kernel)) ggL_law_L_load
set_option maxRecDepth 20000 in
theorem ggL_law_X3_load : GoodIn wsL_law wsX3_load := goodIn_r _ [141, 142, 84, 42, 40, 41, 503, 504, 505, 506, 507, 508, 509] (by decide +kernel) (by decide +kernel)
set_option maxRecDepth 20000 in
theorem gL_law_X3_load : GoodIn wsL_law (wsV RL 108 RX3 yX3_load wsX3_load) := goodIn_app (goodIn_of _ (by decide +kernel)) ggL_law_X3_load
set_option maxRecDepth 20000 in
theorem ggL_law_X2_cut : GoodIn wsL_law wsX2_cut := goodIn_r _ [146, 16, 59, 60, 61, 15, 62, 63, 29, 147, 148, 149, 150, 151, 152, 65, 66, 67, 68, 69, 70, 71, 111, 112, 113, 114, 76, 77, 78, 79, 30, 498, 499, 500, 501, 502, 510, 511, 512] (by decide +kernel) (by decide +kernel)
set_option maxRecDepth 20000 in
theorem gL_law_X2_cut : GoodIn wsL_law (wsV RL 109 RX2 yX2_cut wsX2_cut) := goodIn_app (goodIn_of _ (by decide +kernel)) ggL_law_X2_cut
set_option maxRecDepth 20000 in
theorem ggL_law_X3_cut : GoodIn wsL_law wsX3_cut := goodIn_r _ [156, 84, 157, 158, 159, 5, 160, 161, 162, 163, 164, 89, 90, 91, 92, 42, 40, 85, 86, 87, 88, 119, 120, 121, 122, 41, 503, 504, 505, 506, 507, 508, 509] (by decide +kernel) (by decide +kernel)
set_option maxRecDepth 20000 in
theorem gL_law_X3_cut : GoodIn wsL_law (wsV RL 112 RX3 yX3_cut wsX3_cut) := goodIn_app (goodIn_of _ (by decide +kernel)) ggL_law_X3_cut
set_option maxRecDepth 20000 in
theorem ggL_law_L_merge : GoodIn wsL_law wsL_merge := goodIn_ca (goodIn_ca (goodIn_r _ [167, 168, 50, 169, 170, 171, 2, 172, 55, 56, 58, 16, 173, 174, 175, 176, 177, 178, 19, 17, 179, 180, 181, 182, 183, 184, 15, 185, 63, 29, 30, 152, 65, 66, 67, 68, 69, 70, 71, 186, 187, 188, 189, 510, 511, 512, 498, 499, 500, 501, 502] (by decide +kernel) (by decide +kernel)) (goodIn_sub (fun _ h => List.mem_append_left _ (List.mem_append_left _ (List.mem_append_left _ (List.mem_append_right _ h)))) (by decide +kernel))) (goodIn_sub (fun _ h => List.mem_append_right _ h) (by decide +kernel))
set_option maxRecDepth 20000 in
theorem gL_law_L_merge : GoodIn wsL_law (va_wsS RL 113 yL_merge wsL_merge) := goodIn_app (goodIn_of _ (by decide +kernel)) ggL_law_L_merge
set_option maxRecDepth 20000 in
theorem ggL_law_X3_merge : GoodIn wsL_law wsX3_merge := goodIn_r _ [193, 84, 42, 40, 41, 194, 195, 196, 5, 197, 43, 85, 86, 87, 88, 89, 90, 91, 92, 93, 94, 95, 96, 503, 504, 505, 506, 507, 508, 509] (by decide +kernel) (by decide +kernel)
set_option maxRecDepth 20000 in
theorem gL_law_X3_merge : GoodIn wsL_law (wsV RL 115 RX3 yX3_merge wsX3_merge) := goodIn_app (goodIn_of _ (by decide +kernel)) ggL_law_X3_merge
set_option maxRecDepth 20000 in
theorem ggL_law_L_snapshot : GoodIn wsL_law wsL_snapshot := goodIn_ca (goodIn_r _ [200, 50, 201, 202, 203, 2, 204, 55, 56, 19, 17, 16, 205, 206, 207, 208, 209, 210, 15, 211, 29, 63, 76, 77, 78, 79, 30, 498, 499, 500, 501, 502, 510, 511, 512] (by decide +kernel) (by decide +kernel)) (goodIn_sub (fun _ h => List.mem_append_left _ (List.mem_append_left _ (List.mem_append_left _ (List.mem_append_right _ h)))) (by decide +kernel))
set_option maxRecDepth 20000 in
theorem gL_law_L_snapshot : GoodIn wsL_law (va_wsS RL 116 yL_snapshot wsL_snapshot) := goodIn_app (goodIn_of _ (by decide +kernel)) ggL_law_L_snapshot
set_option maxRecDepth 20000 in
theorem ggL_law_X3_snapshot : GoodIn wsL_law wsX3_snapshot := goodIn_r _ [215, 84, 43, 216, 217, 218, 5, 219, 220, 221, 222, 223, 42, 40, 41, 503, 504, 505, 506, 507, 508, 509] (by decide +kernel) (by decide +kernel)
set_option maxRecDepth 20000 in
theorem gL_law_X3_snapshot : GoodIn wsL_law (wsV RL 119 RX3 yX3_snapshot wsX3_snapshot) := goodIn_app (goodIn_of _ (by decide +kernel)) ggL_law_X3_snapshot
set_option maxRecDepth 20000 in
theorem ggL_law_L_release : GoodIn wsL_law wsL_release := goodIn_ca (goodIn_r _ [226, 168, 227, 228, 229, 2, 230, 58, 19, 231, 232, 233, 234, 177, 178, 173, 174, 175, 176, 17, 179, 180, 181, 235, 236, 237, 510, 511, 512, 498, 499, 500, 501, 502] (by decide +kernel) (by decide +kernel)) (goodIn_sub (fun _ h => List.mem_append_right _ h) (by decide +kernel))
set_option maxRecDepth 20000 in
theorem gL_law_L_release : GoodIn wsL_law (va_wsS RL 120 yL_release wsL_release) := goodIn_app (goodIn_of _ (by decide +kernel)) ggL_law_L_release
set_option maxRecDepth 20000 in
theorem ggL_law_X3_release : GoodIn wsL_law wsX3_release := goodIn_r _ [241, 84, 43, 242, 243, 244, 5, 245, 194, 195, 196, 197, 503, 504, 505, 506, 507, 508, 509] (by decide +kernel) (by decide +kernel)
set_option maxRecDepth 20000 in
theorem gL_law_X3_release : GoodIn wsL_law (wsV RL 122 RX3 yX3_release wsX3_release) := goodIn_app (goodIn_of _ (by decide +kernel)) ggL_law_X3_release
set_option maxRecDepth 20000 in
theorem ggL_law_L_restore : GoodIn wsL_law wsL_restore := goodIn_ca (goodIn_r _ [248, 168, 249, 250, 251, 2, 252, 16, 58, 231, 232, 233, 234, 177, 178, 173, 174, 175, 176, 19, 17, 179, 180, 181, 208, 209, 210, 15, 211, 29, 63, 76, 77, 78, 79, 30, 498, 499, 500, 501, 502, 510, 511, 512] (by decide +kernel) (by decide +kernel)) (goodIn_sub (fun _ h => List.mem_append_right _ h) (by decide +kernel))
set_option maxRecDepth 20000 in
theorem gL_law_L_restore : GoodIn wsL_law (va_wsS RL 123 yL_restore wsL_restore) := goodIn_app (goodIn_of _ (by decide +kernel)) ggL_law_L_restore
set_option maxRecDepth 20000 in
theorem ggL_law_X3_restore : GoodIn wsL_law wsX3_restore := goodIn_r _ [256, 84, 42, 242, 243, 244, 5, 245, 194, 195, 196, 197, 43, 220, 221, 222, 223, 40, 41, 503, 504, 505, 506, 507, 508, 509] (by decide +kernel) (by decide +kernel)
set_option maxRecDepth 20000 in
theorem gL_law_X3_restore : GoodIn wsL_law (wsV RL 125 RX3 yX3_restore wsX3_restore) := goodIn_app (goodIn_of _ (by decide +kernel)) ggL_law_X3_restore
set_option maxRecDepth 20000 in
theorem ggL_law_L_size : GoodIn wsL_law wsL_size := goodIn_ca (goodIn_r _ [259, 168, 260, 261, 262, 2, 263, 58, 173, 174, 175, 176, 177, 178, 19, 17, 179, 180, 181, 510, 511, 512, 498, 499, 500, 501, 502] (by decide +kernel) (by decide +kernel)) (goodIn_sub (fun _ h => List.mem_append_right _ h) (by decide +kernel))
set_option maxRecDepth 20000 in
theorem gL_law_L_size : GoodIn wsL_law (va_wsS RL 126 yL_size wsL_size) := goodIn_app (goodIn_of _ (by decide +kernel)) ggL_law_L_size
set_option maxRecDepth 20000 in
theorem ggL_law_X3_size : GoodIn wsL_law wsX3_size := goodIn_r _ [267, 84, 42, 194, 195, 196, 5, 197, 43, 503, 504, 505, 506, 507, 508, 509] (by decide +kernel) (by decide +kernel)
set_option maxRecDepth 20000 in
theorem gL_law_X3_size : GoodIn wsL_law (wsV RL 128 RX3 yX3_size wsX3_size) := goodIn_app (goodIn_of _ (by decide +kernel)) ggL_law_X3_size
set_option maxRecDepth 20000 in
theorem ggL_law_L_get : GoodIn wsL_law wsL_get := goodIn_ca (goodIn_ca (goodIn_r _ [270, 168, 104, 271, 272, 273, 2, 274, 109, 110, 57, 173, 174, 175, 176, 177, 178, 19, 17, 179, 180, 181, 59, 60, 61, 15, 62, 63, 29, 64, 65, 66, 67, 68, 69, 70, 71, 510, 511, 512, 498, 499, 500, 501, 502] (by decide +kernel) (by decide +kernel)) (goodIn_sub (fun _ h => List.mem_append_left _ (List.mem_append_left _ (List.mem_append_right _ h))) (by decide +kernel))) (goodIn_sub (fun _ h => List.mem_append_right _ h) (by decide +kernel))
set_option maxRecDepth 20000 in
theorem gL_law_L_get : GoodIn wsL_law (va_wsS RL 129 yL_get wsL_get) := goodIn_app (goodIn_of _ (by decide +kernel)) ggL_law_L_get
set_option maxRecDepth 20000 in
theorem ggL_law_X3_get : GoodIn wsL_law wsX3_get := goodIn_r _ [278, 84, 41, 194, 195, 196, 5, 197, 43, 85, 86, 87, 88, 42, 40, 89, 90, 91, 92, 503, 504, 505, 506, 507, 508, 509] (by decide +kernel) (by decide +kernel)
set_option maxRecDepth 20000 in
theorem gL_law_X3_get : GoodIn wsL_law (wsV RL 131 RX3 yX3_get wsX3_get) := goodIn_app (goodIn_of _ (by decide +kernel)) ggL_law_X3_get
set_option maxRecDepth 20000 in
theorem ggL_law_L_rank : GoodIn wsL_law wsL_rank := goodIn_ca (goodIn_r _ [281, 168, 282, 283, 284, 2, 285, 173, 174, 175, 176, 177, 178, 19, 17, 179, 180, 181, 59, 60, 61, 15, 62, 63, 29, 498, 499, 500, 501, 502, 510, 511, 512] (by decide +kernel) (by decide +kernel)) (goodIn_sub (fun _ h => List.mem_append_right _ h) (by decide +kernel))
set_option maxRecDepth 20000 in
theorem gL_law_L_rank : GoodIn wsL_law (va_wsS RL 132 yL_rank wsL_rank) := goodIn_app (goodIn_of _ (by decide +kernel)) ggL_law_L_rank
set_option maxRecDepth 20000 in
theorem ggL_law_X3_rank : GoodIn wsL_law wsX3_rank := goodIn_r _ [289, 84, 194, 195, 196, 5, 197, 43, 89, 90, 91, 92, 42, 40, 503, 504, 505, 506, 507, 508, 509] (by decide +kernel) (by decide +kernel)
set_option maxRecDepth 20000 in
theorem gL_law_X3_rank : GoodIn wsL_law (wsV RL 134 RX3 yX3_rank wsX3_rank) := goodIn_app (goodIn_of _ (by decide +kernel)) ggL_law_X3_rank
set_option maxRecDepth 20000 in
theorem ggL_law_L_select : GoodIn wsL_law wsL_select := goodIn_ca (goodIn_ca (goodIn_r _ [292, 168, 104, 293, 294, 295, 2, 296, 173, 174, 175, 176, 177, 178, 19, 17, 179, 180, 181, 297, 298, 299, 109, 110, 300, 301, 69, 70, 15, 71, 63, 498, 499, 500, 501, 502, 510, 511, 512] (by decide +kernel) (by decide +kernel)) (goodIn_sub (fun _ h => List.mem_append_right _ h) (by decide +kernel))) (goodIn_sub (fun _ h => List.mem_append_left _ (List.mem_append_left _ (List.mem_append_right _ h))) (by decide +kernel))
set_option maxRecDepth 20000 in
theorem gL_law_L_select : GoodIn wsL_law (va_wsS RL 135 yL_select wsL_select) := goodIn_app (goodIn_of _ (by decide +kernel)) ggL_law_L_select
set_option maxRecDepth 20000 in
theorem ggL_law_X3_select : GoodIn wsL_law wsX3_select := goodIn_r _ [305, 42, 84, 40, 194, 195, 196, 5, 197, 43, 503, 504, 505, 506, 507, 508, 509] (by decide +kernel) (by decide +kernel)
set_option maxRecDepth 20000 in
theorem gL_law_X3_select : GoodIn wsL_law (wsV RL 137 RX3 yX3_select wsX3_select) := goodIn_app (goodIn_of _ (by decide +kernel)) ggL_law_X3_select
set_option maxRecDepth 20000 in
theorem ggL_law_L_near : GoodIn wsL_law wsL_near := goodIn_ca (goodIn_ca (goodIn_r _ [308, 168, 104, 309, 310, 311, 2, 312, 173, 174, 175, 176, 177, 178, 19, 17, 179, 180, 181, 313, 314, 315, 15, 316, 151, 60, 61, 62, 63, 29, 317, 148, 149, 150, 152, 65, 66, 67, 68, 69, 70, 71, 297, 298, 299, 109, 110, 300, 301, 498, 499, 500, 501, 502, 510, 511, 512] (by decide +kernel) (by decide +kernel)) (goodIn_sub (fun _ h => List.mem_append_right _ h) (by decide +kernel))) (goodIn_sub (fun _ h => List.mem_append_left _ (List.mem_append_left _ (List.mem_append_right _ h))) (by decide +kernel))
set_option maxRecDepth 20000 in
theorem gL_law_L_near : GoodIn wsL_law (va_wsS RL 138 yL_near wsL_near) := goodIn_app (goodIn_of _ (by decide +kernel)) ggL_law_L_near
set_option maxRecDepth 20000 in
theorem ggL_law_X3_near : GoodIn wsL_law wsX3_near := goodIn_r _ [321, 84, 42, 40, 194, 195, 196, 5, 197, 43, 89, 90, 91, 92, 161, 162, 163, 164, 85, 86, 87, 88, 503, 504, 505, 506, 507, 508, 509] (by decide +kernel) (by decide +kernel)
set_option maxRecDepth 20000 in
theorem gL_law_X3_near : GoodIn wsL_law (wsV RL 141 RX3 yX3_near wsX3_near) := goodIn_app (goodIn_of _ (by decide +kernel)) ggL_law_X3_near
set_option maxRecDepth 20000 in
theorem ggL_law_L_sum : GoodIn wsL_law wsL_sum := goodIn_ca (goodIn_r _ [324, 168, 325, 326, 327, 2, 328, 57, 173, 174, 175, 176, 177, 178, 19, 17, 179, 180, 181, 147, 148, 149, 15, 150, 151, 60, 61, 62, 63, 29, 152, 65, 66, 67, 68, 69, 70, 71, 59, 510, 511, 512, 498, 499, 500, 501, 502] (by decide +kernel) (by decide +kernel)) (goodIn_sub (fun _ h => List.mem_append_right _ h) (by decide +kernel))
set_option maxRecDepth 20000 in
theorem gL_law_L_sum : GoodIn wsL_law (va_wsS RL 142 yL_sum wsL_sum) := goodIn_app (goodIn_of _ (by decide +kernel)) ggL_law_L_sum
set_option maxRecDepth 20000 in
theorem ggL_law_X3_sum : GoodIn wsL_law wsX3_sum := goodIn_r _ [332, 84, 42, 40, 41, 194, 195, 196, 5, 197, 43, 503, 504, 505, 506, 507, 508, 509] (by decide +kernel) (by decide +kernel)
set_option maxRecDepth 20000 in
theorem gL_law_X3_sum : GoodIn wsL_law (wsV RL 145 RX3 yX3_sum wsX3_sum) := goodIn_app (goodIn_of _ (by decide +kernel)) ggL_law_X3_sum
set_option maxRecDepth 20000 in
theorem ggL_law_L_greatest : GoodIn wsL_law wsL_greatest := goodIn_ca (goodIn_ca (goodIn_r _ [335, 168, 104, 336, 337, 338, 2, 339, 109, 110, 57, 340, 341, 342, 343, 173, 174, 175, 176, 177, 178, 19, 17, 179, 180, 181, 59, 60, 61, 15, 62, 63, 29, 147, 148, 149, 150, 151, 152, 65, 66, 67, 68, 69, 70, 71, 510, 511, 512, 498, 499, 500, 501, 502] (by decide +kernel) (by decide +kernel)) (goodIn_sub (fun _ h => List.mem_append_left _ (List.mem_append_left _ (List.mem_append_right _ h))) (by decide +kernel))) (goodIn_sub (fun _ h => List.mem_append_right _ h) (by decide +kernel))
set_option maxRecDepth 20000 in
theorem gL_law_L_greatest : GoodIn wsL_law (va_wsS RL 146 yL_greatest wsL_greatest) := goodIn_app (goodIn_of _ (by decide +kernel)) ggL_law_L_greatest
set_option maxRecDepth 20000 in
theorem ggL_law_X3_greatest : GoodIn wsL_law wsX3_greatest := goodIn_r _ [347, 84, 348, 42, 40, 41, 194, 195, 196, 5, 197, 43, 157, 158, 159, 160, 161, 162, 163, 164, 89, 90, 91, 92, 85, 86, 87, 88, 503, 504, 505, 506, 507, 508, 509] (by decide +kernel) (by decide +kernel)
set_option maxRecDepth 20000 in
theorem gL_law_X3_greatest : GoodIn wsL_law (wsV RL 148 RX3 yX3_greatest wsX3_greatest) := goodIn_app (goodIn_of _ (by decide +kernel)) ggL_law_X3_greatest
set_option maxRecDepth 20000 in
theorem ggL_law_L_differs : GoodIn wsL_law wsL_differs := goodIn_ca (goodIn_r _ [351, 168, 352, 353, 354, 2, 355, 58, 173, 174, 175, 176, 177, 178, 19, 17, 179, 180, 181, 182, 183, 184, 15, 185, 63, 29, 30, 152, 65, 66, 67, 68, 69, 70, 71, 510, 511, 512, 498, 499, 500, 501, 502] (by decide +kernel) (by decide +kernel)) (goodIn_sub (fun _ h => List.mem_append_right _ h) (by decide +kernel))
set_option maxRecDepth 20000 in
theorem gL_law_L_differs : GoodIn wsL_law (va_wsS RL 149 yL_differs wsL_differs) := goodIn_app (goodIn_of _ (by decide +kernel)) ggL_law_L_differs
set_option maxRecDepth 20000 in
theorem ggL_law_X3_differs : GoodIn wsL_law wsX3_differs := goodIn_r _ [359, 84, 42, 40, 194, 195, 196, 5, 197, 43, 360, 361, 362, 363, 41, 85, 86, 87, 88, 89, 90, 91, 92, 503, 504, 505, 506, 507, 508, 509] (by decide +kernel) (by decide +kernel)
set_option maxRecDepth 20000 in
theorem gL_law_X3_differs : GoodIn wsL_law (wsV RL 151 RX3 yX3_differs wsX3_differs) := goodIn_app (goodIn_of _ (by decide +kernel)) ggL_law_X3_differs
set_option maxRecDepth 20000 in
theorem ggL_law_L_firstDifference : GoodIn wsL_law wsL_firstDifference := goodIn_ca (goodIn_ca (goodIn_r _ [366, 168, 104, 367, 368, 369, 2, 370, 58, 300, 371, 372, 342, 373, 173, 174, 175, 176, 177, 178, 19, 17, 179, 180, 181, 374, 375, 376, 15, 377, 63, 378, 29, 30, 297, 298, 299, 109, 110, 301, 69, 70, 71, 510, 511, 512, 498, 499, 500, 501, 502] (by decide +kernel) (by decide +kernel)) (goodIn_sub (fun _ h => List.mem_append_right _ h) (by decide +kernel))) (goodIn_sub (fun _ h => List.mem_append_left _ (List.mem_append_left _ (List.mem_append_right _ h))) (by decide +kernel))
set_option maxRecDepth 20000 in
theorem gL_law_L_firstDifference : GoodIn wsL_law (va_wsS RL 152 yL_firstDifference wsL_firstDifference) := goodIn_app (goodIn_of _ (by decide +kernel)) ggL_law_L_firstDifference
set_option maxRecDepth 20000 in
theorem ggL_law_X3_firstDifference : GoodIn wsL_law wsX3_firstDifference := goodIn_r _ [382, 84, 42, 40, 194, 195, 196, 5, 197, 43, 383, 384, 385, 386, 360, 361, 362, 363, 41, 85, 86, 87, 88, 89, 90, 91, 92, 503, 504, 505, 506, 507, 508, 509] (by decide +kernel) (by decide +kernel)
set_option maxRecDepth 20000 in
theorem gL_law_X3_firstDifference : GoodIn wsL_law (wsV RL 154 RX3 yX3_firstDifference wsX3_firstDifference) := goodIn_app (goodIn_of _ (by decide +kernel)) ggL_law_X3_firstDifference
set_option maxRecDepth 20000 in
theorem ggL_law_L_open : GoodIn wsL_law wsL_open := goodIn_ca (goodIn_ca (goodIn_r _ [389, 168, 50, 390, 391, 392, 2, 393, 55, 56, 22, 21, 173, 174, 175, 176, 177, 178, 19, 17, 179, 180, 181, 205, 206, 207, 394, 395, 396, 24, 397, 35, 398, 399, 400, 209, 210, 15, 211, 29, 63, 76, 77, 78, 79, 30, 401, 314, 315, 316, 151, 60, 61, 62, 317, 148, 149, 150, 152, 65, 66, 67, 68, 69, 70, 71, 498, 499, 500, 501, 502, 513, 514, 515, 510, 511, 512] (by decide +kernel) (by decide +kernel)) (goodIn_sub (fun _ h => List.mem_append_left _ (List.mem_append_left _ (List.mem_append_left _ (List.mem_append_right _ h)))) (by decide +kernel))) (goodIn_sub (fun _ h => List.mem_append_right _ h) (by decide +kernel))
set_option maxRecDepth 20000 in
theorem gL_law_L_open : GoodIn wsL_law (va_wsS RL 155 yL_open wsL_open) := goodIn_app (goodIn_of _ (by decide +kernel)) ggL_law_L_open
set_option maxRecDepth 20000 in
theorem ggL_law_X3_open : GoodIn wsL_law wsX3_open := goodIn_r _ [405, 84, 43, 44, 45, 216, 217, 218, 5, 219, 194, 195, 196, 197, 220, 221, 222, 223, 42, 40, 41, 161, 162, 163, 164, 89, 90, 91, 92, 85, 86, 87, 88, 503, 504, 505, 506, 507, 508, 509] (by decide +kernel) (by decide +kernel)
set_option maxRecDepth 20000 in
theorem gL_law_X3_open : GoodIn wsL_law (wsV RL 157 RX3 yX3_open wsX3_open) := goodIn_app (goodIn_of _ (by decide +kernel)) ggL_law_X3_open
set_option maxRecDepth 20000 in
theorem ggL_law_L_next : GoodIn wsL_law wsL_next := goodIn_ca (goodIn_ca (goodIn_r _ [408, 168, 104, 409, 410, 411, 2, 412, 413, 414, 415, 416, 417, 418, 177, 178, 22, 21, 179, 180, 181, 297, 298, 299, 109, 110, 300, 301, 69, 70, 15, 71, 63, 419, 420, 421, 24, 422, 399, 398, 513, 514, 515, 498, 499, 500, 501, 502, 510, 511, 512] (by decide +kernel) (by decide +kernel)) (goodIn_sub (fun _ h => List.mem_append_right _ h) (by decide +kernel))) (goodIn_sub (fun _ h => List.mem_append_left _ (List.mem_append_left _ (List.mem_append_right _ h))) (by decide +kernel))
set_option maxRecDepth 20000 in
theorem gL_law_L_next : GoodIn wsL_law (va_wsS RL 158 yL_next wsL_next) := goodIn_app (goodIn_of _ (by decide +kernel)) ggL_law_L_next
set_option maxRecDepth 20000 in
theorem ggL_law_X3_next : GoodIn wsL_law wsX3_next := goodIn_r _ [426, 84, 40, 44, 427, 428, 429, 5, 430, 43, 431, 432, 433, 434, 42, 435, 436, 437, 438, 45, 503, 504, 505, 506, 507, 508, 509] (by decide +kernel) (by decide +kernel)
set_option maxRecDepth 20000 in
theorem gL_law_X3_next : GoodIn wsL_law (wsV RL 160 RX3 yX3_next wsX3_next) := goodIn_app (goodIn_of _ (by decide +kernel)) ggL_law_X3_next
set_option maxRecDepth 20000 in
theorem ggL_law_L_skip : GoodIn wsL_law wsL_skip := goodIn_ca (goodIn_ca (goodIn_r _ [441, 168, 126, 442, 443, 444, 2, 445, 131, 132, 371, 372, 342, 373, 415, 416, 417, 418, 177, 178, 22, 21, 179, 180, 181, 446, 447, 448, 24, 449, 398, 399, 35, 450, 419, 420, 421, 422, 498, 499, 500, 501, 502, 513, 514, 515, 510, 511, 512] (by decide +kernel) (by decide +kernel)) (goodIn_sub (fun _ h => List.mem_append_left _ (List.mem_append_right _ h)) (by decide +kernel))) (goodIn_sub (fun _ h => List.mem_append_right _ h) (by decide +kernel))
set_option maxRecDepth 20000 in
theorem gL_law_L_skip : GoodIn wsL_law (va_wsS RL 161 yL_skip wsL_skip) := goodIn_app (goodIn_of _ (by decide +kernel)) ggL_law_L_skip
set_option maxRecDepth 20000 in
theorem ggL_law_X3_skip : GoodIn wsL_law wsX3_skip := goodIn_r _ [454, 84, 427, 428, 429, 5, 430, 43, 431, 432, 433, 434, 44, 42, 435, 436, 437, 438, 45, 503, 504, 505, 506, 507, 508, 509] (by decide +kernel) (by decide +kernel)
set_option maxRecDepth 20000 in
theorem gL_law_X3_skip : GoodIn wsL_law (wsV RL 163 RX3 yX3_skip wsX3_skip) := goodIn_app (goodIn_of _ (by decide +kernel)) ggL_law_X3_skip
set_option maxRecDepth 20000 in
theorem ggL_law_L_peek : GoodIn wsL_law wsL_peek := goodIn_ca (goodIn_ca (goodIn_r _ [457, 168, 104, 458, 459, 460, 2, 461, 109, 110, 413, 414, 57, 415, 416, 417, 418, 177, 178, 22, 21, 179, 180, 181, 301, 69, 70, 15, 71, 63, 513, 514, 515, 510, 511, 512, 498, 499, 500, 501, 502] (by decide +kernel) (by decide +kernel)) (goodIn_sub (fun _ h => List.mem_append_left _ (List.mem_append_left _ (List.mem_append_right _ h))) (by decide +kernel))) (goodIn_sub (fun _ h => List.mem_append_right _ h) (by decide +kernel))
set_option maxRecDepth 20000 in
theorem gL_law_L_peek : GoodIn wsL_law (va_wsS RL 164 yL_peek wsL_peek) := goodIn_app (goodIn_of _ (by decide +kernel)) ggL_law_L_peek
set_option maxRecDepth 20000 in
theorem ggL_law_X3_peek : GoodIn wsL_law wsX3_peek := goodIn_r _ [465, 84, 41, 44, 427, 428, 429, 5, 430, 43, 431, 432, 433, 434, 42, 503, 504, 505, 506, 507, 508, 509] (by decide +kernel) (by decide +kernel)
set_option maxRecDepth 20000 in
theorem gL_law_X3_peek : GoodIn wsL_law (wsV RL 166 RX3 yX3_peek wsX3_peek) := goodIn_app (goodIn_of _ (by decide +kernel)) ggL_law_X3_peek
set_option maxRecDepth 20000 in
theorem ggL_law_L_close : GoodIn wsL_law wsL_close := goodIn_ca (goodIn_r _ [468, 168, 469, 470, 471, 2, 472, 22, 415, 416, 417, 418, 177, 178, 21, 179, 180, 181, 473, 474, 475, 24, 476, 35, 450, 399, 235, 236, 237, 498, 499, 500, 501, 502, 513, 514, 515, 510, 511, 512] (by decide +kernel) (by decide +kernel)) (goodIn_sub (fun _ h => List.mem_append_right _ h) (by decide +kernel))
set_option maxRecDepth 20000 in
theorem gL_law_L_close : GoodIn wsL_law (va_wsS RL 167 yL_close wsL_close) := goodIn_app (goodIn_of _ (by decide +kernel)) ggL_law_L_close
set_option maxRecDepth 20000 in
theorem ggL_law_X3_close : GoodIn wsL_law wsX3_close := goodIn_r _ [480, 84, 43, 427, 428, 429, 5, 430, 503, 504, 505, 506, 507, 508, 509] (by decide +kernel) (by decide +kernel)
set_option maxRecDepth 20000 in
theorem gL_law_X3_close : GoodIn wsL_law (wsV RL 169 RX3 yX3_close wsX3_close) := goodIn_app (goodIn_of _ (by decide +kernel)) ggL_law_X3_close
set_option maxRecDepth 20000 in
theorem ggL_law_X2_astray : GoodIn wsL_law wsX2_astray := goodIn_r _ [484, 19, 17, 21, 22, 485, 486, 487, 15, 488, 63, 29, 489, 490, 491, 24, 492, 399, 35, 450, 493, 498, 499, 500, 501, 502, 510, 511, 512, 513, 514, 515] (by decide +kernel) (by decide +kernel)
set_option maxRecDepth 20000 in
theorem gL_law_X2_astray : GoodIn wsL_law (wsV RL 170 RX2 yX2_astray wsX2_astray) := goodIn_app (goodIn_of _ (by decide +kernel)) ggL_law_X2_astray
set_option maxRecDepth 20000 in
theorem ggL_law_X3_astray : GoodIn wsL_law wsX3_astray := goodIn_r _ [497, 84, 503, 504, 505, 506, 507, 508, 509] (by decide +kernel) (by decide +kernel)
set_option maxRecDepth 20000 in
theorem gL_law_X3_astray : GoodIn wsL_law (wsV RL 173 RX3 yX3_astray wsX3_astray) := goodIn_app (goodIn_of _ (by decide +kernel)) ggL_law_X3_astray
end
section
theorem dL_law_0 : decode cL_law 0 = .ok (.new 8, 3) := by decide +kernel
theorem dL_law_3 : decode cL_law 3 = .ok (.dup, 1) := by decide +kernel
theorem dL_law_4 : decode cL_law 4 = .ok (.invokespecial 88, 3) := by decide +kernel
theorem dL_law_7 : decode cL_law 7 = .ok (.astore_n 1, 1) := by decide +kernel
theorem dL_law_8 : decode cL_law 8 = .ok (.new 89, 3) := by decide +kernel
theorem dL_law_11 : decode cL_law 11 = .ok (.dup, 1) := by decide +kernel
theorem dL_law_12 : decode cL_law 12 = .ok (.invokespecial 91, 3) := by decide +kernel
theorem dL_law_15 : decode cL_law 15 = .ok (.astore_n 2, 1) := by decide +kernel
theorem dL_law_16 : decode cL_law 16 = .ok (.iconst 1, 1) := by decide +kernel
theorem dL_law_17 : decode cL_law 17 = .ok (.newarray .long, 2) := by decide +kernel
theorem dL_law_19 : decode cL_law 19 = .ok (.astore_n 3, 1) := by decide +kernel
theorem dL_law_20 : decode cL_law 20 = .ok (.iconst 0, 1) := by decide +kernel
theorem dL_law_21 : decode cL_law 21 = .ok (.istore 4, 2) := by decide +kernel
theorem dL_law_23 : decode cL_law 23 = .ok (.iload 4, 2) := by decide +kernel
theorem dL_law_25 : decode cL_law 25 = .ok (.aload_n 0, 1) := by decide +kernel
theorem dL_law_26 : decode cL_law 26 = .ok (.arraylength, 1) := by decide +kernel
theorem dL_law_27 : decode cL_law 27 = .ok (.bipush 6, 2) := by decide +kernel
theorem dL_law_29 : decode cL_law 29 = .ok (.isub, 1) := by decide +kernel
theorem dL_law_30 : decode cL_law 30 = .ok (.if_icmp .gt 1604, 3) := by decide +kernel
theorem dL_law_33 : decode cL_law 33 = .ok (.aload_n 0, 1) := by decide +kernel
theorem dL_law_34 : decode cL_law 34 = .ok (.iload 4, 2) := by decide +kernel
theorem dL_law_36 : decode cL_law 36 = .ok (.iaload, 1) := by decide +kernel
theorem dL_law_37 : decode cL_law 37 = .ok (.bipush 31, 2) := by decide +kernel
theorem dL_law_39 : decode cL_law 39 = .ok (.iand, 1) := by decide +kernel
theorem dL_law_40 : decode cL_law 40 = .ok (.tableswitch 1588 0 22 #[108, 183, 239, 343, 380, 436, 480, 536, 592, 648, 716, 784, 852, 948, 1027, 1107, 1175, 1243, 1339, 1395, 1463, 1519, 1575], 108) := by decide +kernel
theorem dL_law_148 : decode cL_law 148 = .ok (.aload_n 1, 1) := by decide +kernel
theorem dL_law_149 : decode cL_law 149 = .ok (.aload_n 0, 1) := by decide +kernel
theorem dL_law_150 : decode cL_law 150 = .ok (.iload 4, 2) := by decide +kernel
theorem dL_law_152 : decode cL_law 152 = .ok (.iconst 1, 1) := by decide +kernel
theorem dL_law_153 : decode cL_law 153 = .ok (.iadd, 1) := by decide +kernel
theorem dL_law_154 : decode cL_law 154 = .ok (.iaload, 1) := by decide +kernel
theorem dL_law_155 : decode cL_law 155 = .ok (.aload_n 0, 1) := by decide +kernel
theorem dL_law_156 : decode cL_law 156 = .ok (.iload 4, 2) := by decide +kernel
theorem dL_law_158 : decode cL_law 158 = .ok (.iconst 2, 1) := by decide +kernel
theorem dL_law_159 : decode cL_law 159 = .ok (.iadd, 1) := by decide +kernel
theorem dL_law_160 : decode cL_law 160 = .ok (.iaload, 1) := by decide +kernel
theorem dL_law_161 : decode cL_law 161 = .ok (.aload_n 3, 1) := by decide +kernel
theorem dL_law_162 : decode cL_law 162 = .ok (.invokestatic 92, 3) := by decide +kernel
theorem dL_law_165 : decode cL_law 165 = .ok (.istore 5, 2) := by decide +kernel
theorem dL_law_167 : decode cL_law 167 = .ok (.aload_n 2, 1) := by decide +kernel
theorem dL_law_168 : decode cL_law 168 = .ok (.aload_n 0, 1) := by decide +kernel
theorem dL_law_169 : decode cL_law 169 = .ok (.iload 4, 2) := by decide +kernel
theorem dL_law_171 : decode cL_law 171 = .ok (.iconst 1, 1) := by decide +kernel
theorem dL_law_172 : decode cL_law 172 = .ok (.iadd, 1) := by decide +kernel
theorem dL_law_173 : decode cL_law 173 = .ok (.iaload, 1) := by decide +kernel
theorem dL_law_174 : decode cL_law 174 = .ok (.aload_n 0, 1) := by decide +kernel
theorem dL_law_175 : decode cL_law 175 = .ok (.iload 4, 2) := by decide +kernel
theorem dL_law_177 : decode cL_law 177 = .ok (.iconst 2, 1) := by decide +kernel
theorem dL_law_178 : decode cL_law 178 = .ok (.iadd, 1) := by decide +kernel
theorem dL_law_179 : decode cL_law 179 = .ok (.iaload, 1) := by decide +kernel
theorem dL_law_180 : decode cL_law 180 = .ok (.invokevirtual 97, 3) := by decide +kernel
theorem dL_law_183 : decode cL_law 183 = .ok (.istore 6, 2) := by decide +kernel
theorem dL_law_185 : decode cL_law 185 = .ok (.aload_n 2, 1) := by decide +kernel
theorem dL_law_186 : decode cL_law 186 = .ok (.invokevirtual 98, 3) := by decide +kernel
theorem dL_law_189 : decode cL_law 189 = .ok (.iload 5, 2) := by decide +kernel
theorem dL_law_191 : decode cL_law 191 = .ok (.if_icmp .eq 5, 3) := by decide +kernel
theorem dL_law_194 : decode cL_law 194 = .ok (.iconst 0, 1) := by decide +kernel
theorem dL_law_195 : decode cL_law 195 = .ok (.ireturn, 1) := by decide +kernel
theorem dL_law_196 : decode cL_law 196 = .ok (.iload 5, 2) := by decide +kernel
theorem dL_law_198 : decode cL_law 198 = .ok (.ifCond .ne 22, 3) := by decide +kernel
theorem dL_law_201 : decode cL_law 201 = .ok (.aload_n 3, 1) := by decide +kernel
theorem dL_law_202 : decode cL_law 202 = .ok (.iconst 0, 1) := by decide +kernel
theorem dL_law_203 : decode cL_law 203 = .ok (.laload, 1) := by decide +kernel
theorem dL_law_204 : decode cL_law 204 = .ok (.iload 6, 2) := by decide +kernel
theorem dL_law_206 : decode cL_law 206 = .ok (.ifCond .eq 7, 3) := by decide +kernel
theorem dL_law_209 : decode cL_law 209 = .ok (.lconst 1, 1) := by decide +kernel
theorem dL_law_210 : decode cL_law 210 = .ok (.goto 4, 3) := by decide +kernel
theorem dL_law_213 : decode cL_law 213 = .ok (.lconst 0, 1) := by decide +kernel
theorem dL_law_214 : decode cL_law 214 = .ok (.lcmp, 1) := by decide +kernel
theorem dL_law_215 : decode cL_law 215 = .ok (.ifCond .eq 5, 3) := by decide +kernel
theorem dL_law_218 : decode cL_law 218 = .ok (.iconst 0, 1) := by decide +kernel
theorem dL_law_219 : decode cL_law 219 = .ok (.ireturn, 1) := by decide +kernel
theorem dL_law_220 : decode cL_law 220 = .ok (.goto 1408, 3) := by decide +kernel
theorem dL_law_223 : decode cL_law 223 = .ok (.aload_n 1, 1) := by decide +kernel
theorem dL_law_224 : decode cL_law 224 = .ok (.aload_n 0, 1) := by decide +kernel
theorem dL_law_225 : decode cL_law 225 = .ok (.iload 4, 2) := by decide +kernel
theorem dL_law_227 : decode cL_law 227 = .ok (.iconst 1, 1) := by decide +kernel
theorem dL_law_228 : decode cL_law 228 = .ok (.iadd, 1) := by decide +kernel
theorem dL_law_229 : decode cL_law 229 = .ok (.iaload, 1) := by decide +kernel
theorem dL_law_230 : decode cL_law 230 = .ok (.aload_n 3, 1) := by decide +kernel
theorem dL_law_231 : decode cL_law 231 = .ok (.invokestatic 101, 3) := by decide +kernel
theorem dL_law_234 : decode cL_law 234 = .ok (.istore 5, 2) := by decide +kernel
theorem dL_law_236 : decode cL_law 236 = .ok (.aload_n 2, 1) := by decide +kernel
theorem dL_law_237 : decode cL_law 237 = .ok (.aload_n 0, 1) := by decide +kernel
theorem dL_law_238 : decode cL_law 238 = .ok (.iload 4, 2) := by decide +kernel
theorem dL_law_240 : decode cL_law 240 = .ok (.iconst 1, 1) := by decide +kernel
theorem dL_law_241 : decode cL_law 241 = .ok (.iadd, 1) := by decide +kernel
theorem dL_law_242 : decode cL_law 242 = .ok (.iaload, 1) := by decide +kernel
theorem dL_law_243 : decode cL_law 243 = .ok (.invokevirtual 104, 3) := by decide +kernel
theorem dL_law_246 : decode cL_law 246 = .ok (.istore 6, 2) := by decide +kernel
theorem dL_law_248 : decode cL_law 248 = .ok (.aload_n 2, 1) := by decide +kernel
theorem dL_law_249 : decode cL_law 249 = .ok (.invokevirtual 98, 3) := by decide +kernel
theorem dL_law_252 : decode cL_law 252 = .ok (.iload 5, 2) := by decide +kernel
theorem dL_law_254 : decode cL_law 254 = .ok (.if_icmp .eq 5, 3) := by decide +kernel
theorem dL_law_257 : decode cL_law 257 = .ok (.iconst 0, 1) := by decide +kernel
theorem dL_law_258 : decode cL_law 258 = .ok (.ireturn, 1) := by decide +kernel
theorem dL_law_259 : decode cL_law 259 = .ok (.iload 5, 2) := by decide +kernel
theorem dL_law_261 : decode cL_law 261 = .ok (.ifCond .ne 15, 3) := by decide +kernel
theorem dL_law_264 : decode cL_law 264 = .ok (.aload_n 3, 1) := by decide +kernel
theorem dL_law_265 : decode cL_law 265 = .ok (.iconst 0, 1) := by decide +kernel
theorem dL_law_266 : decode cL_law 266 = .ok (.laload, 1) := by decide +kernel
theorem dL_law_267 : decode cL_law 267 = .ok (.iload 6, 2) := by decide +kernel
theorem dL_law_269 : decode cL_law 269 = .ok (.i2l, 1) := by decide +kernel
theorem dL_law_270 : decode cL_law 270 = .ok (.lcmp, 1) := by decide +kernel
theorem dL_law_271 : decode cL_law 271 = .ok (.ifCond .eq 5, 3) := by decide +kernel
theorem dL_law_274 : decode cL_law 274 = .ok (.iconst 0, 1) := by decide +kernel
theorem dL_law_275 : decode cL_law 275 = .ok (.ireturn, 1) := by decide +kernel
theorem dL_law_276 : decode cL_law 276 = .ok (.goto 1352, 3) := by decide +kernel
theorem dL_law_279 : decode cL_law 279 = .ok (.aload_n 1, 1) := by decide +kernel
theorem dL_law_280 : decode cL_law 280 = .ok (.aload_n 0, 1) := by decide +kernel
theorem dL_law_281 : decode cL_law 281 = .ok (.iload 4, 2) := by decide +kernel
theorem dL_law_283 : decode cL_law 283 = .ok (.iconst 1, 1) := by decide +kernel
theorem dL_law_284 : decode cL_law 284 = .ok (.iadd, 1) := by decide +kernel
theorem dL_law_285 : decode cL_law 285 = .ok (.iaload, 1) := by decide +kernel
theorem dL_law_286 : decode cL_law 286 = .ok (.aload_n 0, 1) := by decide +kernel
theorem dL_law_287 : decode cL_law 287 = .ok (.iload 4, 2) := by decide +kernel
theorem dL_law_289 : decode cL_law 289 = .ok (.iconst 2, 1) := by decide +kernel
theorem dL_law_290 : decode cL_law 290 = .ok (.iadd, 1) := by decide +kernel
theorem dL_law_291 : decode cL_law 291 = .ok (.iaload, 1) := by decide +kernel
theorem dL_law_292 : decode cL_law 292 = .ok (.aload_n 0, 1) := by decide +kernel
theorem dL_law_293 : decode cL_law 293 = .ok (.iload 4, 2) := by decide +kernel
theorem dL_law_295 : decode cL_law 295 = .ok (.iconst 3, 1) := by decide +kernel
theorem dL_law_296 : decode cL_law 296 = .ok (.iadd, 1) := by decide +kernel
theorem dL_law_297 : decode cL_law 297 = .ok (.iaload, 1) := by decide +kernel
theorem dL_law_298 : decode cL_law 298 = .ok (.aload_n 0, 1) := by decide +kernel
theorem dL_law_299 : decode cL_law 299 = .ok (.iload 4, 2) := by decide +kernel
theorem dL_law_301 : decode cL_law 301 = .ok (.iconst 4, 1) := by decide +kernel
theorem dL_law_302 : decode cL_law 302 = .ok (.iadd, 1) := by decide +kernel
theorem dL_law_303 : decode cL_law 303 = .ok (.iaload, 1) := by decide +kernel
theorem dL_law_304 : decode cL_law 304 = .ok (.aload_n 0, 1) := by decide +kernel
theorem dL_law_305 : decode cL_law 305 = .ok (.iload 4, 2) := by decide +kernel
theorem dL_law_307 : decode cL_law 307 = .ok (.iconst 5, 1) := by decide +kernel
theorem dL_law_308 : decode cL_law 308 = .ok (.iadd, 1) := by decide +kernel
theorem dL_law_309 : decode cL_law 309 = .ok (.iaload, 1) := by decide +kernel
theorem dL_law_310 : decode cL_law 310 = .ok (.aload_n 3, 1) := by decide +kernel
theorem dL_law_311 : decode cL_law 311 = .ok (.invokestatic 105, 3) := by decide +kernel
theorem dL_law_314 : decode cL_law 314 = .ok (.istore 5, 2) := by decide +kernel
theorem dL_law_316 : decode cL_law 316 = .ok (.aload_n 2, 1) := by decide +kernel
theorem dL_law_317 : decode cL_law 317 = .ok (.aload_n 0, 1) := by decide +kernel
theorem dL_law_318 : decode cL_law 318 = .ok (.iload 4, 2) := by decide +kernel
theorem dL_law_320 : decode cL_law 320 = .ok (.iconst 1, 1) := by decide +kernel
theorem dL_law_321 : decode cL_law 321 = .ok (.iadd, 1) := by decide +kernel
theorem dL_law_322 : decode cL_law 322 = .ok (.iaload, 1) := by decide +kernel
theorem dL_law_323 : decode cL_law 323 = .ok (.aload_n 0, 1) := by decide +kernel
theorem dL_law_324 : decode cL_law 324 = .ok (.iload 4, 2) := by decide +kernel
theorem dL_law_326 : decode cL_law 326 = .ok (.iconst 2, 1) := by decide +kernel
theorem dL_law_327 : decode cL_law 327 = .ok (.iadd, 1) := by decide +kernel
theorem dL_law_328 : decode cL_law 328 = .ok (.iaload, 1) := by decide +kernel
theorem dL_law_329 : decode cL_law 329 = .ok (.aload_n 0, 1) := by decide +kernel
theorem dL_law_330 : decode cL_law 330 = .ok (.iload 4, 2) := by decide +kernel
theorem dL_law_332 : decode cL_law 332 = .ok (.iconst 3, 1) := by decide +kernel
theorem dL_law_333 : decode cL_law 333 = .ok (.iadd, 1) := by decide +kernel
theorem dL_law_334 : decode cL_law 334 = .ok (.iaload, 1) := by decide +kernel
theorem dL_law_335 : decode cL_law 335 = .ok (.aload_n 0, 1) := by decide +kernel
theorem dL_law_336 : decode cL_law 336 = .ok (.iload 4, 2) := by decide +kernel
theorem dL_law_338 : decode cL_law 338 = .ok (.iconst 4, 1) := by decide +kernel
theorem dL_law_339 : decode cL_law 339 = .ok (.iadd, 1) := by decide +kernel
theorem dL_law_340 : decode cL_law 340 = .ok (.iaload, 1) := by decide +kernel
theorem dL_law_341 : decode cL_law 341 = .ok (.aload_n 0, 1) := by decide +kernel
theorem dL_law_342 : decode cL_law 342 = .ok (.iload 4, 2) := by decide +kernel
theorem dL_law_344 : decode cL_law 344 = .ok (.iconst 5, 1) := by decide +kernel
theorem dL_law_345 : decode cL_law 345 = .ok (.iadd, 1) := by decide +kernel
theorem dL_law_346 : decode cL_law 346 = .ok (.iaload, 1) := by decide +kernel
theorem dL_law_347 : decode cL_law 347 = .ok (.invokevirtual 108, 3) := by decide +kernel
theorem dL_law_350 : decode cL_law 350 = .ok (.istore 6, 2) := by decide +kernel
theorem dL_law_352 : decode cL_law 352 = .ok (.aload_n 2, 1) := by decide +kernel
theorem dL_law_353 : decode cL_law 353 = .ok (.invokevirtual 98, 3) := by decide +kernel
theorem dL_law_356 : decode cL_law 356 = .ok (.iload 5, 2) := by decide +kernel
theorem dL_law_358 : decode cL_law 358 = .ok (.if_icmp .eq 5, 3) := by decide +kernel
theorem dL_law_361 : decode cL_law 361 = .ok (.iconst 0, 1) := by decide +kernel
theorem dL_law_362 : decode cL_law 362 = .ok (.ireturn, 1) := by decide +kernel
theorem dL_law_363 : decode cL_law 363 = .ok (.iload 5, 2) := by decide +kernel
theorem dL_law_365 : decode cL_law 365 = .ok (.ifCond .ne 15, 3) := by decide +kernel
theorem dL_law_368 : decode cL_law 368 = .ok (.aload_n 3, 1) := by decide +kernel
theorem dL_law_369 : decode cL_law 369 = .ok (.iconst 0, 1) := by decide +kernel
theorem dL_law_370 : decode cL_law 370 = .ok (.laload, 1) := by decide +kernel
theorem dL_law_371 : decode cL_law 371 = .ok (.iload 6, 2) := by decide +kernel
theorem dL_law_373 : decode cL_law 373 = .ok (.i2l, 1) := by decide +kernel
theorem dL_law_374 : decode cL_law 374 = .ok (.lcmp, 1) := by decide +kernel
theorem dL_law_375 : decode cL_law 375 = .ok (.ifCond .eq 5, 3) := by decide +kernel
theorem dL_law_378 : decode cL_law 378 = .ok (.iconst 0, 1) := by decide +kernel
theorem dL_law_379 : decode cL_law 379 = .ok (.ireturn, 1) := by decide +kernel
theorem dL_law_380 : decode cL_law 380 = .ok (.goto 1248, 3) := by decide +kernel
theorem dL_law_383 : decode cL_law 383 = .ok (.aload_n 1, 1) := by decide +kernel
theorem dL_law_384 : decode cL_law 384 = .ok (.aload_n 0, 1) := by decide +kernel
theorem dL_law_385 : decode cL_law 385 = .ok (.iload 4, 2) := by decide +kernel
theorem dL_law_387 : decode cL_law 387 = .ok (.iconst 1, 1) := by decide +kernel
theorem dL_law_388 : decode cL_law 388 = .ok (.iadd, 1) := by decide +kernel
theorem dL_law_389 : decode cL_law 389 = .ok (.iaload, 1) := by decide +kernel
theorem dL_law_390 : decode cL_law 390 = .ok (.aload_n 0, 1) := by decide +kernel
theorem dL_law_391 : decode cL_law 391 = .ok (.iload 4, 2) := by decide +kernel
theorem dL_law_393 : decode cL_law 393 = .ok (.iconst 2, 1) := by decide +kernel
theorem dL_law_394 : decode cL_law 394 = .ok (.iadd, 1) := by decide +kernel
theorem dL_law_395 : decode cL_law 395 = .ok (.iaload, 1) := by decide +kernel
theorem dL_law_396 : decode cL_law 396 = .ok (.invokevirtual 109, 3) := by decide +kernel
theorem dL_law_399 : decode cL_law 399 = .ok (.aload_n 2, 1) := by decide +kernel
end
section
theorem dL_law_400 : decode cL_law 400 = .ok (.aload_n 0, 1) := by decide +kernel
theorem dL_law_401 : decode cL_law 401 = .ok (.iload 4, 2) := by decide +kernel
theorem dL_law_403 : decode cL_law 403 = .ok (.iconst 1, 1) := by decide +kernel
theorem dL_law_404 : decode cL_law 404 = .ok (.iadd, 1) := by decide +kernel
theorem dL_law_405 : decode cL_law 405 = .ok (.iaload, 1) := by decide +kernel
theorem dL_law_406 : decode cL_law 406 = .ok (.aload_n 0, 1) := by decide +kernel
theorem dL_law_407 : decode cL_law 407 = .ok (.iload 4, 2) := by decide +kernel
theorem dL_law_409 : decode cL_law 409 = .ok (.iconst 2, 1) := by decide +kernel
theorem dL_law_410 : decode cL_law 410 = .ok (.iadd, 1) := by decide +kernel
theorem dL_law_411 : decode cL_law 411 = .ok (.iaload, 1) := by decide +kernel
theorem dL_law_412 : decode cL_law 412 = .ok (.invokevirtual 112, 3) := by decide +kernel
theorem dL_law_415 : decode cL_law 415 = .ok (.if_icmp .eq 1213, 3) := by decide +kernel
theorem dL_law_418 : decode cL_law 418 = .ok (.iconst 0, 1) := by decide +kernel
theorem dL_law_419 : decode cL_law 419 = .ok (.ireturn, 1) := by decide +kernel
theorem dL_law_420 : decode cL_law 420 = .ok (.aload_n 1, 1) := by decide +kernel
theorem dL_law_421 : decode cL_law 421 = .ok (.aload_n 0, 1) := by decide +kernel
theorem dL_law_422 : decode cL_law 422 = .ok (.iload 4, 2) := by decide +kernel
theorem dL_law_424 : decode cL_law 424 = .ok (.iconst 1, 1) := by decide +kernel
theorem dL_law_425 : decode cL_law 425 = .ok (.iadd, 1) := by decide +kernel
theorem dL_law_426 : decode cL_law 426 = .ok (.iaload, 1) := by decide +kernel
theorem dL_law_427 : decode cL_law 427 = .ok (.aload_n 3, 1) := by decide +kernel
theorem dL_law_428 : decode cL_law 428 = .ok (.invokestatic 113, 3) := by decide +kernel
theorem dL_law_431 : decode cL_law 431 = .ok (.istore 5, 2) := by decide +kernel
theorem dL_law_433 : decode cL_law 433 = .ok (.aload_n 2, 1) := by decide +kernel
theorem dL_law_434 : decode cL_law 434 = .ok (.aload_n 0, 1) := by decide +kernel
theorem dL_law_435 : decode cL_law 435 = .ok (.iload 4, 2) := by decide +kernel
theorem dL_law_437 : decode cL_law 437 = .ok (.iconst 1, 1) := by decide +kernel
theorem dL_law_438 : decode cL_law 438 = .ok (.iadd, 1) := by decide +kernel
theorem dL_law_439 : decode cL_law 439 = .ok (.iaload, 1) := by decide +kernel
theorem dL_law_440 : decode cL_law 440 = .ok (.invokevirtual 115, 3) := by decide +kernel
theorem dL_law_443 : decode cL_law 443 = .ok (.istore 6, 2) := by decide +kernel
theorem dL_law_445 : decode cL_law 445 = .ok (.aload_n 2, 1) := by decide +kernel
theorem dL_law_446 : decode cL_law 446 = .ok (.invokevirtual 98, 3) := by decide +kernel
theorem dL_law_449 : decode cL_law 449 = .ok (.iload 5, 2) := by decide +kernel
theorem dL_law_451 : decode cL_law 451 = .ok (.if_icmp .eq 5, 3) := by decide +kernel
theorem dL_law_454 : decode cL_law 454 = .ok (.iconst 0, 1) := by decide +kernel
theorem dL_law_455 : decode cL_law 455 = .ok (.ireturn, 1) := by decide +kernel
theorem dL_law_456 : decode cL_law 456 = .ok (.iload 5, 2) := by decide +kernel
theorem dL_law_458 : decode cL_law 458 = .ok (.ifCond .ne 15, 3) := by decide +kernel
theorem dL_law_461 : decode cL_law 461 = .ok (.aload_n 3, 1) := by decide +kernel
theorem dL_law_462 : decode cL_law 462 = .ok (.iconst 0, 1) := by decide +kernel
theorem dL_law_463 : decode cL_law 463 = .ok (.laload, 1) := by decide +kernel
theorem dL_law_464 : decode cL_law 464 = .ok (.iload 6, 2) := by decide +kernel
theorem dL_law_466 : decode cL_law 466 = .ok (.i2l, 1) := by decide +kernel
theorem dL_law_467 : decode cL_law 467 = .ok (.lcmp, 1) := by decide +kernel
theorem dL_law_468 : decode cL_law 468 = .ok (.ifCond .eq 5, 3) := by decide +kernel
theorem dL_law_471 : decode cL_law 471 = .ok (.iconst 0, 1) := by decide +kernel
theorem dL_law_472 : decode cL_law 472 = .ok (.ireturn, 1) := by decide +kernel
theorem dL_law_473 : decode cL_law 473 = .ok (.goto 1155, 3) := by decide +kernel
theorem dL_law_476 : decode cL_law 476 = .ok (.aload_n 1, 1) := by decide +kernel
theorem dL_law_477 : decode cL_law 477 = .ok (.aload_n 3, 1) := by decide +kernel
theorem dL_law_478 : decode cL_law 478 = .ok (.invokestatic 116, 3) := by decide +kernel
theorem dL_law_481 : decode cL_law 481 = .ok (.istore 5, 2) := by decide +kernel
theorem dL_law_483 : decode cL_law 483 = .ok (.aload_n 2, 1) := by decide +kernel
theorem dL_law_484 : decode cL_law 484 = .ok (.invokevirtual 119, 3) := by decide +kernel
theorem dL_law_487 : decode cL_law 487 = .ok (.istore 6, 2) := by decide +kernel
theorem dL_law_489 : decode cL_law 489 = .ok (.aload_n 2, 1) := by decide +kernel
theorem dL_law_490 : decode cL_law 490 = .ok (.invokevirtual 98, 3) := by decide +kernel
theorem dL_law_493 : decode cL_law 493 = .ok (.iload 5, 2) := by decide +kernel
theorem dL_law_495 : decode cL_law 495 = .ok (.if_icmp .eq 5, 3) := by decide +kernel
theorem dL_law_498 : decode cL_law 498 = .ok (.iconst 0, 1) := by decide +kernel
theorem dL_law_499 : decode cL_law 499 = .ok (.ireturn, 1) := by decide +kernel
theorem dL_law_500 : decode cL_law 500 = .ok (.iload 5, 2) := by decide +kernel
theorem dL_law_502 : decode cL_law 502 = .ok (.ifCond .ne 15, 3) := by decide +kernel
theorem dL_law_505 : decode cL_law 505 = .ok (.aload_n 3, 1) := by decide +kernel
theorem dL_law_506 : decode cL_law 506 = .ok (.iconst 0, 1) := by decide +kernel
theorem dL_law_507 : decode cL_law 507 = .ok (.laload, 1) := by decide +kernel
theorem dL_law_508 : decode cL_law 508 = .ok (.iload 6, 2) := by decide +kernel
theorem dL_law_510 : decode cL_law 510 = .ok (.i2l, 1) := by decide +kernel
theorem dL_law_511 : decode cL_law 511 = .ok (.lcmp, 1) := by decide +kernel
theorem dL_law_512 : decode cL_law 512 = .ok (.ifCond .eq 5, 3) := by decide +kernel
theorem dL_law_515 : decode cL_law 515 = .ok (.iconst 0, 1) := by decide +kernel
theorem dL_law_516 : decode cL_law 516 = .ok (.ireturn, 1) := by decide +kernel
theorem dL_law_517 : decode cL_law 517 = .ok (.goto 1111, 3) := by decide +kernel
theorem dL_law_520 : decode cL_law 520 = .ok (.aload_n 1, 1) := by decide +kernel
theorem dL_law_521 : decode cL_law 521 = .ok (.aload_n 0, 1) := by decide +kernel
theorem dL_law_522 : decode cL_law 522 = .ok (.iload 4, 2) := by decide +kernel
theorem dL_law_524 : decode cL_law 524 = .ok (.iconst 1, 1) := by decide +kernel
theorem dL_law_525 : decode cL_law 525 = .ok (.iadd, 1) := by decide +kernel
theorem dL_law_526 : decode cL_law 526 = .ok (.iaload, 1) := by decide +kernel
theorem dL_law_527 : decode cL_law 527 = .ok (.aload_n 3, 1) := by decide +kernel
theorem dL_law_528 : decode cL_law 528 = .ok (.invokestatic 120, 3) := by decide +kernel
theorem dL_law_531 : decode cL_law 531 = .ok (.istore 5, 2) := by decide +kernel
theorem dL_law_533 : decode cL_law 533 = .ok (.aload_n 2, 1) := by decide +kernel
theorem dL_law_534 : decode cL_law 534 = .ok (.aload_n 0, 1) := by decide +kernel
theorem dL_law_535 : decode cL_law 535 = .ok (.iload 4, 2) := by decide +kernel
theorem dL_law_537 : decode cL_law 537 = .ok (.iconst 1, 1) := by decide +kernel
theorem dL_law_538 : decode cL_law 538 = .ok (.iadd, 1) := by decide +kernel
theorem dL_law_539 : decode cL_law 539 = .ok (.iaload, 1) := by decide +kernel
theorem dL_law_540 : decode cL_law 540 = .ok (.invokevirtual 122, 3) := by decide +kernel
theorem dL_law_543 : decode cL_law 543 = .ok (.istore 6, 2) := by decide +kernel
theorem dL_law_545 : decode cL_law 545 = .ok (.aload_n 2, 1) := by decide +kernel
theorem dL_law_546 : decode cL_law 546 = .ok (.invokevirtual 98, 3) := by decide +kernel
theorem dL_law_549 : decode cL_law 549 = .ok (.iload 5, 2) := by decide +kernel
theorem dL_law_551 : decode cL_law 551 = .ok (.if_icmp .eq 5, 3) := by decide +kernel
theorem dL_law_554 : decode cL_law 554 = .ok (.iconst 0, 1) := by decide +kernel
theorem dL_law_555 : decode cL_law 555 = .ok (.ireturn, 1) := by decide +kernel
theorem dL_law_556 : decode cL_law 556 = .ok (.iload 5, 2) := by decide +kernel
theorem dL_law_558 : decode cL_law 558 = .ok (.ifCond .ne 15, 3) := by decide +kernel
theorem dL_law_561 : decode cL_law 561 = .ok (.aload_n 3, 1) := by decide +kernel
theorem dL_law_562 : decode cL_law 562 = .ok (.iconst 0, 1) := by decide +kernel
theorem dL_law_563 : decode cL_law 563 = .ok (.laload, 1) := by decide +kernel
theorem dL_law_564 : decode cL_law 564 = .ok (.iload 6, 2) := by decide +kernel
theorem dL_law_566 : decode cL_law 566 = .ok (.i2l, 1) := by decide +kernel
theorem dL_law_567 : decode cL_law 567 = .ok (.lcmp, 1) := by decide +kernel
theorem dL_law_568 : decode cL_law 568 = .ok (.ifCond .eq 5, 3) := by decide +kernel
theorem dL_law_571 : decode cL_law 571 = .ok (.iconst 0, 1) := by decide +kernel
theorem dL_law_572 : decode cL_law 572 = .ok (.ireturn, 1) := by decide +kernel
theorem dL_law_573 : decode cL_law 573 = .ok (.goto 1055, 3) := by decide +kernel
theorem dL_law_576 : decode cL_law 576 = .ok (.aload_n 1, 1) := by decide +kernel
theorem dL_law_577 : decode cL_law 577 = .ok (.aload_n 0, 1) := by decide +kernel
theorem dL_law_578 : decode cL_law 578 = .ok (.iload 4, 2) := by decide +kernel
theorem dL_law_580 : decode cL_law 580 = .ok (.iconst 1, 1) := by decide +kernel
theorem dL_law_581 : decode cL_law 581 = .ok (.iadd, 1) := by decide +kernel
theorem dL_law_582 : decode cL_law 582 = .ok (.iaload, 1) := by decide +kernel
theorem dL_law_583 : decode cL_law 583 = .ok (.aload_n 3, 1) := by decide +kernel
theorem dL_law_584 : decode cL_law 584 = .ok (.invokestatic 123, 3) := by decide +kernel
theorem dL_law_587 : decode cL_law 587 = .ok (.istore 5, 2) := by decide +kernel
theorem dL_law_589 : decode cL_law 589 = .ok (.aload_n 2, 1) := by decide +kernel
theorem dL_law_590 : decode cL_law 590 = .ok (.aload_n 0, 1) := by decide +kernel
theorem dL_law_591 : decode cL_law 591 = .ok (.iload 4, 2) := by decide +kernel
theorem dL_law_593 : decode cL_law 593 = .ok (.iconst 1, 1) := by decide +kernel
theorem dL_law_594 : decode cL_law 594 = .ok (.iadd, 1) := by decide +kernel
theorem dL_law_595 : decode cL_law 595 = .ok (.iaload, 1) := by decide +kernel
theorem dL_law_596 : decode cL_law 596 = .ok (.invokevirtual 125, 3) := by decide +kernel
theorem dL_law_599 : decode cL_law 599 = .ok (.istore 6, 2) := by decide +kernel
theorem dL_law_601 : decode cL_law 601 = .ok (.aload_n 2, 1) := by decide +kernel
theorem dL_law_602 : decode cL_law 602 = .ok (.invokevirtual 98, 3) := by decide +kernel
theorem dL_law_605 : decode cL_law 605 = .ok (.iload 5, 2) := by decide +kernel
theorem dL_law_607 : decode cL_law 607 = .ok (.if_icmp .eq 5, 3) := by decide +kernel
theorem dL_law_610 : decode cL_law 610 = .ok (.iconst 0, 1) := by decide +kernel
theorem dL_law_611 : decode cL_law 611 = .ok (.ireturn, 1) := by decide +kernel
theorem dL_law_612 : decode cL_law 612 = .ok (.iload 5, 2) := by decide +kernel
theorem dL_law_614 : decode cL_law 614 = .ok (.ifCond .ne 15, 3) := by decide +kernel
theorem dL_law_617 : decode cL_law 617 = .ok (.aload_n 3, 1) := by decide +kernel
theorem dL_law_618 : decode cL_law 618 = .ok (.iconst 0, 1) := by decide +kernel
theorem dL_law_619 : decode cL_law 619 = .ok (.laload, 1) := by decide +kernel
theorem dL_law_620 : decode cL_law 620 = .ok (.iload 6, 2) := by decide +kernel
theorem dL_law_622 : decode cL_law 622 = .ok (.i2l, 1) := by decide +kernel
theorem dL_law_623 : decode cL_law 623 = .ok (.lcmp, 1) := by decide +kernel
theorem dL_law_624 : decode cL_law 624 = .ok (.ifCond .eq 5, 3) := by decide +kernel
theorem dL_law_627 : decode cL_law 627 = .ok (.iconst 0, 1) := by decide +kernel
theorem dL_law_628 : decode cL_law 628 = .ok (.ireturn, 1) := by decide +kernel
theorem dL_law_629 : decode cL_law 629 = .ok (.goto 999, 3) := by decide +kernel
theorem dL_law_632 : decode cL_law 632 = .ok (.aload_n 1, 1) := by decide +kernel
theorem dL_law_633 : decode cL_law 633 = .ok (.aload_n 0, 1) := by decide +kernel
theorem dL_law_634 : decode cL_law 634 = .ok (.iload 4, 2) := by decide +kernel
theorem dL_law_636 : decode cL_law 636 = .ok (.iconst 1, 1) := by decide +kernel
theorem dL_law_637 : decode cL_law 637 = .ok (.iadd, 1) := by decide +kernel
theorem dL_law_638 : decode cL_law 638 = .ok (.iaload, 1) := by decide +kernel
theorem dL_law_639 : decode cL_law 639 = .ok (.aload_n 3, 1) := by decide +kernel
theorem dL_law_640 : decode cL_law 640 = .ok (.invokestatic 126, 3) := by decide +kernel
theorem dL_law_643 : decode cL_law 643 = .ok (.istore 5, 2) := by decide +kernel
theorem dL_law_645 : decode cL_law 645 = .ok (.aload_n 2, 1) := by decide +kernel
theorem dL_law_646 : decode cL_law 646 = .ok (.aload_n 0, 1) := by decide +kernel
theorem dL_law_647 : decode cL_law 647 = .ok (.iload 4, 2) := by decide +kernel
theorem dL_law_649 : decode cL_law 649 = .ok (.iconst 1, 1) := by decide +kernel
theorem dL_law_650 : decode cL_law 650 = .ok (.iadd, 1) := by decide +kernel
theorem dL_law_651 : decode cL_law 651 = .ok (.iaload, 1) := by decide +kernel
theorem dL_law_652 : decode cL_law 652 = .ok (.invokevirtual 128, 3) := by decide +kernel
theorem dL_law_655 : decode cL_law 655 = .ok (.istore 6, 2) := by decide +kernel
theorem dL_law_657 : decode cL_law 657 = .ok (.aload_n 2, 1) := by decide +kernel
theorem dL_law_658 : decode cL_law 658 = .ok (.invokevirtual 98, 3) := by decide +kernel
theorem dL_law_661 : decode cL_law 661 = .ok (.iload 5, 2) := by decide +kernel
theorem dL_law_663 : decode cL_law 663 = .ok (.if_icmp .eq 5, 3) := by decide +kernel
theorem dL_law_666 : decode cL_law 666 = .ok (.iconst 0, 1) := by decide +kernel
theorem dL_law_667 : decode cL_law 667 = .ok (.ireturn, 1) := by decide +kernel
theorem dL_law_668 : decode cL_law 668 = .ok (.iload 5, 2) := by decide +kernel
theorem dL_law_670 : decode cL_law 670 = .ok (.ifCond .ne 15, 3) := by decide +kernel
theorem dL_law_673 : decode cL_law 673 = .ok (.aload_n 3, 1) := by decide +kernel
theorem dL_law_674 : decode cL_law 674 = .ok (.iconst 0, 1) := by decide +kernel
theorem dL_law_675 : decode cL_law 675 = .ok (.laload, 1) := by decide +kernel
theorem dL_law_676 : decode cL_law 676 = .ok (.iload 6, 2) := by decide +kernel
theorem dL_law_678 : decode cL_law 678 = .ok (.i2l, 1) := by decide +kernel
theorem dL_law_679 : decode cL_law 679 = .ok (.lcmp, 1) := by decide +kernel
theorem dL_law_680 : decode cL_law 680 = .ok (.ifCond .eq 5, 3) := by decide +kernel
theorem dL_law_683 : decode cL_law 683 = .ok (.iconst 0, 1) := by decide +kernel
theorem dL_law_684 : decode cL_law 684 = .ok (.ireturn, 1) := by decide +kernel
theorem dL_law_685 : decode cL_law 685 = .ok (.goto 943, 3) := by decide +kernel
theorem dL_law_688 : decode cL_law 688 = .ok (.aload_n 1, 1) := by decide +kernel
theorem dL_law_689 : decode cL_law 689 = .ok (.aload_n 0, 1) := by decide +kernel
theorem dL_law_690 : decode cL_law 690 = .ok (.iload 4, 2) := by decide +kernel
theorem dL_law_692 : decode cL_law 692 = .ok (.iconst 1, 1) := by decide +kernel
theorem dL_law_693 : decode cL_law 693 = .ok (.iadd, 1) := by decide +kernel
theorem dL_law_694 : decode cL_law 694 = .ok (.iaload, 1) := by decide +kernel
theorem dL_law_695 : decode cL_law 695 = .ok (.aload_n 0, 1) := by decide +kernel
theorem dL_law_696 : decode cL_law 696 = .ok (.iload 4, 2) := by decide +kernel
theorem dL_law_698 : decode cL_law 698 = .ok (.iconst 2, 1) := by decide +kernel
theorem dL_law_699 : decode cL_law 699 = .ok (.iadd, 1) := by decide +kernel
theorem dL_law_700 : decode cL_law 700 = .ok (.iaload, 1) := by decide +kernel
theorem dL_law_701 : decode cL_law 701 = .ok (.aload_n 3, 1) := by decide +kernel
theorem dL_law_702 : decode cL_law 702 = .ok (.invokestatic 129, 3) := by decide +kernel
theorem dL_law_705 : decode cL_law 705 = .ok (.istore 5, 2) := by decide +kernel
theorem dL_law_707 : decode cL_law 707 = .ok (.aload_n 2, 1) := by decide +kernel
theorem dL_law_708 : decode cL_law 708 = .ok (.aload_n 0, 1) := by decide +kernel
theorem dL_law_709 : decode cL_law 709 = .ok (.iload 4, 2) := by decide +kernel
theorem dL_law_711 : decode cL_law 711 = .ok (.iconst 1, 1) := by decide +kernel
theorem dL_law_712 : decode cL_law 712 = .ok (.iadd, 1) := by decide +kernel
theorem dL_law_713 : decode cL_law 713 = .ok (.iaload, 1) := by decide +kernel
theorem dL_law_714 : decode cL_law 714 = .ok (.aload_n 0, 1) := by decide +kernel
theorem dL_law_715 : decode cL_law 715 = .ok (.iload 4, 2) := by decide +kernel
theorem dL_law_717 : decode cL_law 717 = .ok (.iconst 2, 1) := by decide +kernel
theorem dL_law_718 : decode cL_law 718 = .ok (.iadd, 1) := by decide +kernel
theorem dL_law_719 : decode cL_law 719 = .ok (.iaload, 1) := by decide +kernel
theorem dL_law_720 : decode cL_law 720 = .ok (.invokevirtual 131, 3) := by decide +kernel
theorem dL_law_723 : decode cL_law 723 = .ok (.istore 6, 2) := by decide +kernel
theorem dL_law_725 : decode cL_law 725 = .ok (.aload_n 2, 1) := by decide +kernel
theorem dL_law_726 : decode cL_law 726 = .ok (.invokevirtual 98, 3) := by decide +kernel
theorem dL_law_729 : decode cL_law 729 = .ok (.iload 5, 2) := by decide +kernel
theorem dL_law_731 : decode cL_law 731 = .ok (.if_icmp .eq 5, 3) := by decide +kernel
theorem dL_law_734 : decode cL_law 734 = .ok (.iconst 0, 1) := by decide +kernel
theorem dL_law_735 : decode cL_law 735 = .ok (.ireturn, 1) := by decide +kernel
theorem dL_law_736 : decode cL_law 736 = .ok (.iload 5, 2) := by decide +kernel
theorem dL_law_738 : decode cL_law 738 = .ok (.ifCond .ne 15, 3) := by decide +kernel
theorem dL_law_741 : decode cL_law 741 = .ok (.aload_n 3, 1) := by decide +kernel
theorem dL_law_742 : decode cL_law 742 = .ok (.iconst 0, 1) := by decide +kernel
theorem dL_law_743 : decode cL_law 743 = .ok (.laload, 1) := by decide +kernel
theorem dL_law_744 : decode cL_law 744 = .ok (.iload 6, 2) := by decide +kernel
theorem dL_law_746 : decode cL_law 746 = .ok (.i2l, 1) := by decide +kernel
theorem dL_law_747 : decode cL_law 747 = .ok (.lcmp, 1) := by decide +kernel
theorem dL_law_748 : decode cL_law 748 = .ok (.ifCond .eq 5, 3) := by decide +kernel
theorem dL_law_751 : decode cL_law 751 = .ok (.iconst 0, 1) := by decide +kernel
theorem dL_law_752 : decode cL_law 752 = .ok (.ireturn, 1) := by decide +kernel
theorem dL_law_753 : decode cL_law 753 = .ok (.goto 875, 3) := by decide +kernel
theorem dL_law_756 : decode cL_law 756 = .ok (.aload_n 1, 1) := by decide +kernel
theorem dL_law_757 : decode cL_law 757 = .ok (.aload_n 0, 1) := by decide +kernel
theorem dL_law_758 : decode cL_law 758 = .ok (.iload 4, 2) := by decide +kernel
theorem dL_law_760 : decode cL_law 760 = .ok (.iconst 1, 1) := by decide +kernel
theorem dL_law_761 : decode cL_law 761 = .ok (.iadd, 1) := by decide +kernel
theorem dL_law_762 : decode cL_law 762 = .ok (.iaload, 1) := by decide +kernel
theorem dL_law_763 : decode cL_law 763 = .ok (.aload_n 0, 1) := by decide +kernel
theorem dL_law_764 : decode cL_law 764 = .ok (.iload 4, 2) := by decide +kernel
theorem dL_law_766 : decode cL_law 766 = .ok (.iconst 2, 1) := by decide +kernel
theorem dL_law_767 : decode cL_law 767 = .ok (.iadd, 1) := by decide +kernel
theorem dL_law_768 : decode cL_law 768 = .ok (.iaload, 1) := by decide +kernel
theorem dL_law_769 : decode cL_law 769 = .ok (.aload_n 3, 1) := by decide +kernel
theorem dL_law_770 : decode cL_law 770 = .ok (.invokestatic 132, 3) := by decide +kernel
theorem dL_law_773 : decode cL_law 773 = .ok (.istore 5, 2) := by decide +kernel
theorem dL_law_775 : decode cL_law 775 = .ok (.aload_n 2, 1) := by decide +kernel
theorem dL_law_776 : decode cL_law 776 = .ok (.aload_n 0, 1) := by decide +kernel
theorem dL_law_777 : decode cL_law 777 = .ok (.iload 4, 2) := by decide +kernel
theorem dL_law_779 : decode cL_law 779 = .ok (.iconst 1, 1) := by decide +kernel
theorem dL_law_780 : decode cL_law 780 = .ok (.iadd, 1) := by decide +kernel
theorem dL_law_781 : decode cL_law 781 = .ok (.iaload, 1) := by decide +kernel
theorem dL_law_782 : decode cL_law 782 = .ok (.aload_n 0, 1) := by decide +kernel
theorem dL_law_783 : decode cL_law 783 = .ok (.iload 4, 2) := by decide +kernel
theorem dL_law_785 : decode cL_law 785 = .ok (.iconst 2, 1) := by decide +kernel
theorem dL_law_786 : decode cL_law 786 = .ok (.iadd, 1) := by decide +kernel
theorem dL_law_787 : decode cL_law 787 = .ok (.iaload, 1) := by decide +kernel
theorem dL_law_788 : decode cL_law 788 = .ok (.invokevirtual 134, 3) := by decide +kernel
theorem dL_law_791 : decode cL_law 791 = .ok (.istore 6, 2) := by decide +kernel
theorem dL_law_793 : decode cL_law 793 = .ok (.aload_n 2, 1) := by decide +kernel
theorem dL_law_794 : decode cL_law 794 = .ok (.invokevirtual 98, 3) := by decide +kernel
theorem dL_law_797 : decode cL_law 797 = .ok (.iload 5, 2) := by decide +kernel
theorem dL_law_799 : decode cL_law 799 = .ok (.if_icmp .eq 5, 3) := by decide +kernel
end
section
theorem dL_law_802 : decode cL_law 802 = .ok (.iconst 0, 1) := by decide +kernel
theorem dL_law_803 : decode cL_law 803 = .ok (.ireturn, 1) := by decide +kernel
theorem dL_law_804 : decode cL_law 804 = .ok (.iload 5, 2) := by decide +kernel
theorem dL_law_806 : decode cL_law 806 = .ok (.ifCond .ne 15, 3) := by decide +kernel
theorem dL_law_809 : decode cL_law 809 = .ok (.aload_n 3, 1) := by decide +kernel
theorem dL_law_810 : decode cL_law 810 = .ok (.iconst 0, 1) := by decide +kernel
theorem dL_law_811 : decode cL_law 811 = .ok (.laload, 1) := by decide +kernel
theorem dL_law_812 : decode cL_law 812 = .ok (.iload 6, 2) := by decide +kernel
theorem dL_law_814 : decode cL_law 814 = .ok (.i2l, 1) := by decide +kernel
theorem dL_law_815 : decode cL_law 815 = .ok (.lcmp, 1) := by decide +kernel
theorem dL_law_816 : decode cL_law 816 = .ok (.ifCond .eq 5, 3) := by decide +kernel
theorem dL_law_819 : decode cL_law 819 = .ok (.iconst 0, 1) := by decide +kernel
theorem dL_law_820 : decode cL_law 820 = .ok (.ireturn, 1) := by decide +kernel
theorem dL_law_821 : decode cL_law 821 = .ok (.goto 807, 3) := by decide +kernel
theorem dL_law_824 : decode cL_law 824 = .ok (.aload_n 1, 1) := by decide +kernel
theorem dL_law_825 : decode cL_law 825 = .ok (.aload_n 0, 1) := by decide +kernel
theorem dL_law_826 : decode cL_law 826 = .ok (.iload 4, 2) := by decide +kernel
theorem dL_law_828 : decode cL_law 828 = .ok (.iconst 1, 1) := by decide +kernel
theorem dL_law_829 : decode cL_law 829 = .ok (.iadd, 1) := by decide +kernel
theorem dL_law_830 : decode cL_law 830 = .ok (.iaload, 1) := by decide +kernel
theorem dL_law_831 : decode cL_law 831 = .ok (.aload_n 0, 1) := by decide +kernel
theorem dL_law_832 : decode cL_law 832 = .ok (.iload 4, 2) := by decide +kernel
theorem dL_law_834 : decode cL_law 834 = .ok (.iconst 2, 1) := by decide +kernel
theorem dL_law_835 : decode cL_law 835 = .ok (.iadd, 1) := by decide +kernel
theorem dL_law_836 : decode cL_law 836 = .ok (.iaload, 1) := by decide +kernel
theorem dL_law_837 : decode cL_law 837 = .ok (.aload_n 3, 1) := by decide +kernel
theorem dL_law_838 : decode cL_law 838 = .ok (.invokestatic 135, 3) := by decide +kernel
theorem dL_law_841 : decode cL_law 841 = .ok (.istore 5, 2) := by decide +kernel
theorem dL_law_843 : decode cL_law 843 = .ok (.aload_n 2, 1) := by decide +kernel
theorem dL_law_844 : decode cL_law 844 = .ok (.aload_n 0, 1) := by decide +kernel
theorem dL_law_845 : decode cL_law 845 = .ok (.iload 4, 2) := by decide +kernel
theorem dL_law_847 : decode cL_law 847 = .ok (.iconst 1, 1) := by decide +kernel
theorem dL_law_848 : decode cL_law 848 = .ok (.iadd, 1) := by decide +kernel
theorem dL_law_849 : decode cL_law 849 = .ok (.iaload, 1) := by decide +kernel
theorem dL_law_850 : decode cL_law 850 = .ok (.aload_n 0, 1) := by decide +kernel
theorem dL_law_851 : decode cL_law 851 = .ok (.iload 4, 2) := by decide +kernel
theorem dL_law_853 : decode cL_law 853 = .ok (.iconst 2, 1) := by decide +kernel
theorem dL_law_854 : decode cL_law 854 = .ok (.iadd, 1) := by decide +kernel
theorem dL_law_855 : decode cL_law 855 = .ok (.iaload, 1) := by decide +kernel
theorem dL_law_856 : decode cL_law 856 = .ok (.invokevirtual 137, 3) := by decide +kernel
theorem dL_law_859 : decode cL_law 859 = .ok (.istore 6, 2) := by decide +kernel
theorem dL_law_861 : decode cL_law 861 = .ok (.aload_n 2, 1) := by decide +kernel
theorem dL_law_862 : decode cL_law 862 = .ok (.invokevirtual 98, 3) := by decide +kernel
theorem dL_law_865 : decode cL_law 865 = .ok (.iload 5, 2) := by decide +kernel
theorem dL_law_867 : decode cL_law 867 = .ok (.if_icmp .eq 5, 3) := by decide +kernel
theorem dL_law_870 : decode cL_law 870 = .ok (.iconst 0, 1) := by decide +kernel
theorem dL_law_871 : decode cL_law 871 = .ok (.ireturn, 1) := by decide +kernel
theorem dL_law_872 : decode cL_law 872 = .ok (.iload 5, 2) := by decide +kernel
theorem dL_law_874 : decode cL_law 874 = .ok (.ifCond .ne 15, 3) := by decide +kernel
theorem dL_law_877 : decode cL_law 877 = .ok (.aload_n 3, 1) := by decide +kernel
theorem dL_law_878 : decode cL_law 878 = .ok (.iconst 0, 1) := by decide +kernel
theorem dL_law_879 : decode cL_law 879 = .ok (.laload, 1) := by decide +kernel
theorem dL_law_880 : decode cL_law 880 = .ok (.iload 6, 2) := by decide +kernel
theorem dL_law_882 : decode cL_law 882 = .ok (.i2l, 1) := by decide +kernel
theorem dL_law_883 : decode cL_law 883 = .ok (.lcmp, 1) := by decide +kernel
theorem dL_law_884 : decode cL_law 884 = .ok (.ifCond .eq 5, 3) := by decide +kernel
theorem dL_law_887 : decode cL_law 887 = .ok (.iconst 0, 1) := by decide +kernel
theorem dL_law_888 : decode cL_law 888 = .ok (.ireturn, 1) := by decide +kernel
theorem dL_law_889 : decode cL_law 889 = .ok (.goto 739, 3) := by decide +kernel
theorem dL_law_892 : decode cL_law 892 = .ok (.aload_n 1, 1) := by decide +kernel
theorem dL_law_893 : decode cL_law 893 = .ok (.aload_n 0, 1) := by decide +kernel
theorem dL_law_894 : decode cL_law 894 = .ok (.iload 4, 2) := by decide +kernel
theorem dL_law_896 : decode cL_law 896 = .ok (.iconst 1, 1) := by decide +kernel
theorem dL_law_897 : decode cL_law 897 = .ok (.iadd, 1) := by decide +kernel
theorem dL_law_898 : decode cL_law 898 = .ok (.iaload, 1) := by decide +kernel
theorem dL_law_899 : decode cL_law 899 = .ok (.aload_n 0, 1) := by decide +kernel
theorem dL_law_900 : decode cL_law 900 = .ok (.iload 4, 2) := by decide +kernel
theorem dL_law_902 : decode cL_law 902 = .ok (.iconst 2, 1) := by decide +kernel
theorem dL_law_903 : decode cL_law 903 = .ok (.iadd, 1) := by decide +kernel
theorem dL_law_904 : decode cL_law 904 = .ok (.iaload, 1) := by decide +kernel
theorem dL_law_905 : decode cL_law 905 = .ok (.aload_n 0, 1) := by decide +kernel
theorem dL_law_906 : decode cL_law 906 = .ok (.iload 4, 2) := by decide +kernel
theorem dL_law_908 : decode cL_law 908 = .ok (.iconst 3, 1) := by decide +kernel
theorem dL_law_909 : decode cL_law 909 = .ok (.iadd, 1) := by decide +kernel
theorem dL_law_910 : decode cL_law 910 = .ok (.iaload, 1) := by decide +kernel
theorem dL_law_911 : decode cL_law 911 = .ok (.ifCond .eq 7, 3) := by decide +kernel
theorem dL_law_914 : decode cL_law 914 = .ok (.iconst 1, 1) := by decide +kernel
theorem dL_law_915 : decode cL_law 915 = .ok (.goto 4, 3) := by decide +kernel
theorem dL_law_918 : decode cL_law 918 = .ok (.iconst 0, 1) := by decide +kernel
theorem dL_law_919 : decode cL_law 919 = .ok (.aload_n 3, 1) := by decide +kernel
theorem dL_law_920 : decode cL_law 920 = .ok (.invokestatic 138, 3) := by decide +kernel
theorem dL_law_923 : decode cL_law 923 = .ok (.istore 5, 2) := by decide +kernel
theorem dL_law_925 : decode cL_law 925 = .ok (.aload_n 2, 1) := by decide +kernel
theorem dL_law_926 : decode cL_law 926 = .ok (.aload_n 0, 1) := by decide +kernel
theorem dL_law_927 : decode cL_law 927 = .ok (.iload 4, 2) := by decide +kernel
theorem dL_law_929 : decode cL_law 929 = .ok (.iconst 1, 1) := by decide +kernel
theorem dL_law_930 : decode cL_law 930 = .ok (.iadd, 1) := by decide +kernel
theorem dL_law_931 : decode cL_law 931 = .ok (.iaload, 1) := by decide +kernel
theorem dL_law_932 : decode cL_law 932 = .ok (.aload_n 0, 1) := by decide +kernel
theorem dL_law_933 : decode cL_law 933 = .ok (.iload 4, 2) := by decide +kernel
theorem dL_law_935 : decode cL_law 935 = .ok (.iconst 2, 1) := by decide +kernel
theorem dL_law_936 : decode cL_law 936 = .ok (.iadd, 1) := by decide +kernel
theorem dL_law_937 : decode cL_law 937 = .ok (.iaload, 1) := by decide +kernel
theorem dL_law_938 : decode cL_law 938 = .ok (.aload_n 0, 1) := by decide +kernel
theorem dL_law_939 : decode cL_law 939 = .ok (.iload 4, 2) := by decide +kernel
theorem dL_law_941 : decode cL_law 941 = .ok (.iconst 3, 1) := by decide +kernel
theorem dL_law_942 : decode cL_law 942 = .ok (.iadd, 1) := by decide +kernel
theorem dL_law_943 : decode cL_law 943 = .ok (.iaload, 1) := by decide +kernel
theorem dL_law_944 : decode cL_law 944 = .ok (.ifCond .eq 7, 3) := by decide +kernel
theorem dL_law_947 : decode cL_law 947 = .ok (.iconst 1, 1) := by decide +kernel
theorem dL_law_948 : decode cL_law 948 = .ok (.goto 4, 3) := by decide +kernel
theorem dL_law_951 : decode cL_law 951 = .ok (.iconst 0, 1) := by decide +kernel
theorem dL_law_952 : decode cL_law 952 = .ok (.invokevirtual 141, 3) := by decide +kernel
theorem dL_law_955 : decode cL_law 955 = .ok (.istore 6, 2) := by decide +kernel
theorem dL_law_957 : decode cL_law 957 = .ok (.aload_n 2, 1) := by decide +kernel
theorem dL_law_958 : decode cL_law 958 = .ok (.invokevirtual 98, 3) := by decide +kernel
theorem dL_law_961 : decode cL_law 961 = .ok (.iload 5, 2) := by decide +kernel
theorem dL_law_963 : decode cL_law 963 = .ok (.if_icmp .eq 5, 3) := by decide +kernel
theorem dL_law_966 : decode cL_law 966 = .ok (.iconst 0, 1) := by decide +kernel
theorem dL_law_967 : decode cL_law 967 = .ok (.ireturn, 1) := by decide +kernel
theorem dL_law_968 : decode cL_law 968 = .ok (.iload 5, 2) := by decide +kernel
theorem dL_law_970 : decode cL_law 970 = .ok (.ifCond .ne 15, 3) := by decide +kernel
theorem dL_law_973 : decode cL_law 973 = .ok (.aload_n 3, 1) := by decide +kernel
theorem dL_law_974 : decode cL_law 974 = .ok (.iconst 0, 1) := by decide +kernel
theorem dL_law_975 : decode cL_law 975 = .ok (.laload, 1) := by decide +kernel
theorem dL_law_976 : decode cL_law 976 = .ok (.iload 6, 2) := by decide +kernel
theorem dL_law_978 : decode cL_law 978 = .ok (.i2l, 1) := by decide +kernel
theorem dL_law_979 : decode cL_law 979 = .ok (.lcmp, 1) := by decide +kernel
theorem dL_law_980 : decode cL_law 980 = .ok (.ifCond .eq 5, 3) := by decide +kernel
theorem dL_law_983 : decode cL_law 983 = .ok (.iconst 0, 1) := by decide +kernel
theorem dL_law_984 : decode cL_law 984 = .ok (.ireturn, 1) := by decide +kernel
theorem dL_law_985 : decode cL_law 985 = .ok (.goto 643, 3) := by decide +kernel
theorem dL_law_988 : decode cL_law 988 = .ok (.aload_n 1, 1) := by decide +kernel
theorem dL_law_989 : decode cL_law 989 = .ok (.aload_n 0, 1) := by decide +kernel
theorem dL_law_990 : decode cL_law 990 = .ok (.iload 4, 2) := by decide +kernel
theorem dL_law_992 : decode cL_law 992 = .ok (.iconst 1, 1) := by decide +kernel
theorem dL_law_993 : decode cL_law 993 = .ok (.iadd, 1) := by decide +kernel
theorem dL_law_994 : decode cL_law 994 = .ok (.iaload, 1) := by decide +kernel
theorem dL_law_995 : decode cL_law 995 = .ok (.aload_n 0, 1) := by decide +kernel
theorem dL_law_996 : decode cL_law 996 = .ok (.iload 4, 2) := by decide +kernel
theorem dL_law_998 : decode cL_law 998 = .ok (.iconst 2, 1) := by decide +kernel
theorem dL_law_999 : decode cL_law 999 = .ok (.iadd, 1) := by decide +kernel
theorem dL_law_1000 : decode cL_law 1000 = .ok (.iaload, 1) := by decide +kernel
theorem dL_law_1001 : decode cL_law 1001 = .ok (.aload_n 0, 1) := by decide +kernel
theorem dL_law_1002 : decode cL_law 1002 = .ok (.iload 4, 2) := by decide +kernel
theorem dL_law_1004 : decode cL_law 1004 = .ok (.iconst 3, 1) := by decide +kernel
theorem dL_law_1005 : decode cL_law 1005 = .ok (.iadd, 1) := by decide +kernel
theorem dL_law_1006 : decode cL_law 1006 = .ok (.iaload, 1) := by decide +kernel
theorem dL_law_1007 : decode cL_law 1007 = .ok (.aload_n 3, 1) := by decide +kernel
theorem dL_law_1008 : decode cL_law 1008 = .ok (.invokestatic 142, 3) := by decide +kernel
theorem dL_law_1011 : decode cL_law 1011 = .ok (.istore 5, 2) := by decide +kernel
theorem dL_law_1013 : decode cL_law 1013 = .ok (.aload_n 2, 1) := by decide +kernel
theorem dL_law_1014 : decode cL_law 1014 = .ok (.aload_n 0, 1) := by decide +kernel
theorem dL_law_1015 : decode cL_law 1015 = .ok (.iload 4, 2) := by decide +kernel
theorem dL_law_1017 : decode cL_law 1017 = .ok (.iconst 1, 1) := by decide +kernel
theorem dL_law_1018 : decode cL_law 1018 = .ok (.iadd, 1) := by decide +kernel
theorem dL_law_1019 : decode cL_law 1019 = .ok (.iaload, 1) := by decide +kernel
theorem dL_law_1020 : decode cL_law 1020 = .ok (.aload_n 0, 1) := by decide +kernel
theorem dL_law_1021 : decode cL_law 1021 = .ok (.iload 4, 2) := by decide +kernel
theorem dL_law_1023 : decode cL_law 1023 = .ok (.iconst 2, 1) := by decide +kernel
theorem dL_law_1024 : decode cL_law 1024 = .ok (.iadd, 1) := by decide +kernel
theorem dL_law_1025 : decode cL_law 1025 = .ok (.iaload, 1) := by decide +kernel
theorem dL_law_1026 : decode cL_law 1026 = .ok (.aload_n 0, 1) := by decide +kernel
theorem dL_law_1027 : decode cL_law 1027 = .ok (.iload 4, 2) := by decide +kernel
theorem dL_law_1029 : decode cL_law 1029 = .ok (.iconst 3, 1) := by decide +kernel
theorem dL_law_1030 : decode cL_law 1030 = .ok (.iadd, 1) := by decide +kernel
theorem dL_law_1031 : decode cL_law 1031 = .ok (.iaload, 1) := by decide +kernel
theorem dL_law_1032 : decode cL_law 1032 = .ok (.invokevirtual 145, 3) := by decide +kernel
theorem dL_law_1035 : decode cL_law 1035 = .ok (.lstore 6, 2) := by decide +kernel
theorem dL_law_1037 : decode cL_law 1037 = .ok (.aload_n 2, 1) := by decide +kernel
theorem dL_law_1038 : decode cL_law 1038 = .ok (.invokevirtual 98, 3) := by decide +kernel
theorem dL_law_1041 : decode cL_law 1041 = .ok (.iload 5, 2) := by decide +kernel
theorem dL_law_1043 : decode cL_law 1043 = .ok (.if_icmp .eq 5, 3) := by decide +kernel
theorem dL_law_1046 : decode cL_law 1046 = .ok (.iconst 0, 1) := by decide +kernel
theorem dL_law_1047 : decode cL_law 1047 = .ok (.ireturn, 1) := by decide +kernel
theorem dL_law_1048 : decode cL_law 1048 = .ok (.iload 5, 2) := by decide +kernel
theorem dL_law_1050 : decode cL_law 1050 = .ok (.ifCond .ne 14, 3) := by decide +kernel
theorem dL_law_1053 : decode cL_law 1053 = .ok (.aload_n 3, 1) := by decide +kernel
theorem dL_law_1054 : decode cL_law 1054 = .ok (.iconst 0, 1) := by decide +kernel
theorem dL_law_1055 : decode cL_law 1055 = .ok (.laload, 1) := by decide +kernel
theorem dL_law_1056 : decode cL_law 1056 = .ok (.lload 6, 2) := by decide +kernel
theorem dL_law_1058 : decode cL_law 1058 = .ok (.lcmp, 1) := by decide +kernel
theorem dL_law_1059 : decode cL_law 1059 = .ok (.ifCond .eq 5, 3) := by decide +kernel
theorem dL_law_1062 : decode cL_law 1062 = .ok (.iconst 0, 1) := by decide +kernel
theorem dL_law_1063 : decode cL_law 1063 = .ok (.ireturn, 1) := by decide +kernel
theorem dL_law_1064 : decode cL_law 1064 = .ok (.goto 564, 3) := by decide +kernel
theorem dL_law_1067 : decode cL_law 1067 = .ok (.aload_n 1, 1) := by decide +kernel
theorem dL_law_1068 : decode cL_law 1068 = .ok (.aload_n 0, 1) := by decide +kernel
theorem dL_law_1069 : decode cL_law 1069 = .ok (.iload 4, 2) := by decide +kernel
theorem dL_law_1071 : decode cL_law 1071 = .ok (.iconst 1, 1) := by decide +kernel
theorem dL_law_1072 : decode cL_law 1072 = .ok (.iadd, 1) := by decide +kernel
theorem dL_law_1073 : decode cL_law 1073 = .ok (.iaload, 1) := by decide +kernel
theorem dL_law_1074 : decode cL_law 1074 = .ok (.aload_n 0, 1) := by decide +kernel
theorem dL_law_1075 : decode cL_law 1075 = .ok (.iload 4, 2) := by decide +kernel
theorem dL_law_1077 : decode cL_law 1077 = .ok (.iconst 2, 1) := by decide +kernel
theorem dL_law_1078 : decode cL_law 1078 = .ok (.iadd, 1) := by decide +kernel
theorem dL_law_1079 : decode cL_law 1079 = .ok (.iaload, 1) := by decide +kernel
theorem dL_law_1080 : decode cL_law 1080 = .ok (.aload_n 0, 1) := by decide +kernel
theorem dL_law_1081 : decode cL_law 1081 = .ok (.iload 4, 2) := by decide +kernel
theorem dL_law_1083 : decode cL_law 1083 = .ok (.iconst 3, 1) := by decide +kernel
theorem dL_law_1084 : decode cL_law 1084 = .ok (.iadd, 1) := by decide +kernel
theorem dL_law_1085 : decode cL_law 1085 = .ok (.iaload, 1) := by decide +kernel
theorem dL_law_1086 : decode cL_law 1086 = .ok (.aload_n 3, 1) := by decide +kernel
theorem dL_law_1087 : decode cL_law 1087 = .ok (.invokestatic 146, 3) := by decide +kernel
theorem dL_law_1090 : decode cL_law 1090 = .ok (.istore 5, 2) := by decide +kernel
theorem dL_law_1092 : decode cL_law 1092 = .ok (.aload_n 2, 1) := by decide +kernel
theorem dL_law_1093 : decode cL_law 1093 = .ok (.aload_n 0, 1) := by decide +kernel
theorem dL_law_1094 : decode cL_law 1094 = .ok (.iload 4, 2) := by decide +kernel
theorem dL_law_1096 : decode cL_law 1096 = .ok (.iconst 1, 1) := by decide +kernel
theorem dL_law_1097 : decode cL_law 1097 = .ok (.iadd, 1) := by decide +kernel
theorem dL_law_1098 : decode cL_law 1098 = .ok (.iaload, 1) := by decide +kernel
theorem dL_law_1099 : decode cL_law 1099 = .ok (.aload_n 0, 1) := by decide +kernel
theorem dL_law_1100 : decode cL_law 1100 = .ok (.iload 4, 2) := by decide +kernel
theorem dL_law_1102 : decode cL_law 1102 = .ok (.iconst 2, 1) := by decide +kernel
theorem dL_law_1103 : decode cL_law 1103 = .ok (.iadd, 1) := by decide +kernel
theorem dL_law_1104 : decode cL_law 1104 = .ok (.iaload, 1) := by decide +kernel
theorem dL_law_1105 : decode cL_law 1105 = .ok (.aload_n 0, 1) := by decide +kernel
theorem dL_law_1106 : decode cL_law 1106 = .ok (.iload 4, 2) := by decide +kernel
theorem dL_law_1108 : decode cL_law 1108 = .ok (.iconst 3, 1) := by decide +kernel
theorem dL_law_1109 : decode cL_law 1109 = .ok (.iadd, 1) := by decide +kernel
theorem dL_law_1110 : decode cL_law 1110 = .ok (.iaload, 1) := by decide +kernel
theorem dL_law_1111 : decode cL_law 1111 = .ok (.invokevirtual 148, 3) := by decide +kernel
theorem dL_law_1114 : decode cL_law 1114 = .ok (.istore 6, 2) := by decide +kernel
theorem dL_law_1116 : decode cL_law 1116 = .ok (.aload_n 2, 1) := by decide +kernel
theorem dL_law_1117 : decode cL_law 1117 = .ok (.invokevirtual 98, 3) := by decide +kernel
theorem dL_law_1120 : decode cL_law 1120 = .ok (.iload 5, 2) := by decide +kernel
theorem dL_law_1122 : decode cL_law 1122 = .ok (.if_icmp .eq 5, 3) := by decide +kernel
theorem dL_law_1125 : decode cL_law 1125 = .ok (.iconst 0, 1) := by decide +kernel
theorem dL_law_1126 : decode cL_law 1126 = .ok (.ireturn, 1) := by decide +kernel
theorem dL_law_1127 : decode cL_law 1127 = .ok (.iload 5, 2) := by decide +kernel
theorem dL_law_1129 : decode cL_law 1129 = .ok (.ifCond .ne 15, 3) := by decide +kernel
theorem dL_law_1132 : decode cL_law 1132 = .ok (.aload_n 3, 1) := by decide +kernel
theorem dL_law_1133 : decode cL_law 1133 = .ok (.iconst 0, 1) := by decide +kernel
theorem dL_law_1134 : decode cL_law 1134 = .ok (.laload, 1) := by decide +kernel
theorem dL_law_1135 : decode cL_law 1135 = .ok (.iload 6, 2) := by decide +kernel
theorem dL_law_1137 : decode cL_law 1137 = .ok (.i2l, 1) := by decide +kernel
theorem dL_law_1138 : decode cL_law 1138 = .ok (.lcmp, 1) := by decide +kernel
theorem dL_law_1139 : decode cL_law 1139 = .ok (.ifCond .eq 5, 3) := by decide +kernel
theorem dL_law_1142 : decode cL_law 1142 = .ok (.iconst 0, 1) := by decide +kernel
theorem dL_law_1143 : decode cL_law 1143 = .ok (.ireturn, 1) := by decide +kernel
theorem dL_law_1144 : decode cL_law 1144 = .ok (.goto 484, 3) := by decide +kernel
theorem dL_law_1147 : decode cL_law 1147 = .ok (.aload_n 1, 1) := by decide +kernel
theorem dL_law_1148 : decode cL_law 1148 = .ok (.aload_n 0, 1) := by decide +kernel
theorem dL_law_1149 : decode cL_law 1149 = .ok (.iload 4, 2) := by decide +kernel
theorem dL_law_1151 : decode cL_law 1151 = .ok (.iconst 1, 1) := by decide +kernel
theorem dL_law_1152 : decode cL_law 1152 = .ok (.iadd, 1) := by decide +kernel
theorem dL_law_1153 : decode cL_law 1153 = .ok (.iaload, 1) := by decide +kernel
theorem dL_law_1154 : decode cL_law 1154 = .ok (.aload_n 0, 1) := by decide +kernel
theorem dL_law_1155 : decode cL_law 1155 = .ok (.iload 4, 2) := by decide +kernel
theorem dL_law_1157 : decode cL_law 1157 = .ok (.iconst 2, 1) := by decide +kernel
theorem dL_law_1158 : decode cL_law 1158 = .ok (.iadd, 1) := by decide +kernel
theorem dL_law_1159 : decode cL_law 1159 = .ok (.iaload, 1) := by decide +kernel
theorem dL_law_1160 : decode cL_law 1160 = .ok (.aload_n 3, 1) := by decide +kernel
theorem dL_law_1161 : decode cL_law 1161 = .ok (.invokestatic 149, 3) := by decide +kernel
theorem dL_law_1164 : decode cL_law 1164 = .ok (.istore 5, 2) := by decide +kernel
theorem dL_law_1166 : decode cL_law 1166 = .ok (.aload_n 2, 1) := by decide +kernel
theorem dL_law_1167 : decode cL_law 1167 = .ok (.aload_n 0, 1) := by decide +kernel
theorem dL_law_1168 : decode cL_law 1168 = .ok (.iload 4, 2) := by decide +kernel
theorem dL_law_1170 : decode cL_law 1170 = .ok (.iconst 1, 1) := by decide +kernel
theorem dL_law_1171 : decode cL_law 1171 = .ok (.iadd, 1) := by decide +kernel
theorem dL_law_1172 : decode cL_law 1172 = .ok (.iaload, 1) := by decide +kernel
theorem dL_law_1173 : decode cL_law 1173 = .ok (.aload_n 0, 1) := by decide +kernel
theorem dL_law_1174 : decode cL_law 1174 = .ok (.iload 4, 2) := by decide +kernel
theorem dL_law_1176 : decode cL_law 1176 = .ok (.iconst 2, 1) := by decide +kernel
theorem dL_law_1177 : decode cL_law 1177 = .ok (.iadd, 1) := by decide +kernel
theorem dL_law_1178 : decode cL_law 1178 = .ok (.iaload, 1) := by decide +kernel
theorem dL_law_1179 : decode cL_law 1179 = .ok (.invokevirtual 151, 3) := by decide +kernel
theorem dL_law_1182 : decode cL_law 1182 = .ok (.istore 6, 2) := by decide +kernel
theorem dL_law_1184 : decode cL_law 1184 = .ok (.aload_n 2, 1) := by decide +kernel
theorem dL_law_1185 : decode cL_law 1185 = .ok (.invokevirtual 98, 3) := by decide +kernel
theorem dL_law_1188 : decode cL_law 1188 = .ok (.iload 5, 2) := by decide +kernel
theorem dL_law_1190 : decode cL_law 1190 = .ok (.if_icmp .eq 5, 3) := by decide +kernel
theorem dL_law_1193 : decode cL_law 1193 = .ok (.iconst 0, 1) := by decide +kernel
theorem dL_law_1194 : decode cL_law 1194 = .ok (.ireturn, 1) := by decide +kernel
theorem dL_law_1195 : decode cL_law 1195 = .ok (.iload 5, 2) := by decide +kernel
theorem dL_law_1197 : decode cL_law 1197 = .ok (.ifCond .ne 15, 3) := by decide +kernel
end
section
theorem dL_law_1200 : decode cL_law 1200 = .ok (.aload_n 3, 1) := by decide +kernel
theorem dL_law_1201 : decode cL_law 1201 = .ok (.iconst 0, 1) := by decide +kernel
theorem dL_law_1202 : decode cL_law 1202 = .ok (.laload, 1) := by decide +kernel
theorem dL_law_1203 : decode cL_law 1203 = .ok (.iload 6, 2) := by decide +kernel
theorem dL_law_1205 : decode cL_law 1205 = .ok (.i2l, 1) := by decide +kernel
theorem dL_law_1206 : decode cL_law 1206 = .ok (.lcmp, 1) := by decide +kernel
theorem dL_law_1207 : decode cL_law 1207 = .ok (.ifCond .eq 5, 3) := by decide +kernel
theorem dL_law_1210 : decode cL_law 1210 = .ok (.iconst 0, 1) := by decide +kernel
theorem dL_law_1211 : decode cL_law 1211 = .ok (.ireturn, 1) := by decide +kernel
theorem dL_law_1212 : decode cL_law 1212 = .ok (.goto 416, 3) := by decide +kernel
theorem dL_law_1215 : decode cL_law 1215 = .ok (.aload_n 1, 1) := by decide +kernel
theorem dL_law_1216 : decode cL_law 1216 = .ok (.aload_n 0, 1) := by decide +kernel
theorem dL_law_1217 : decode cL_law 1217 = .ok (.iload 4, 2) := by decide +kernel
theorem dL_law_1219 : decode cL_law 1219 = .ok (.iconst 1, 1) := by decide +kernel
theorem dL_law_1220 : decode cL_law 1220 = .ok (.iadd, 1) := by decide +kernel
theorem dL_law_1221 : decode cL_law 1221 = .ok (.iaload, 1) := by decide +kernel
theorem dL_law_1222 : decode cL_law 1222 = .ok (.aload_n 0, 1) := by decide +kernel
theorem dL_law_1223 : decode cL_law 1223 = .ok (.iload 4, 2) := by decide +kernel
theorem dL_law_1225 : decode cL_law 1225 = .ok (.iconst 2, 1) := by decide +kernel
theorem dL_law_1226 : decode cL_law 1226 = .ok (.iadd, 1) := by decide +kernel
theorem dL_law_1227 : decode cL_law 1227 = .ok (.iaload, 1) := by decide +kernel
theorem dL_law_1228 : decode cL_law 1228 = .ok (.aload_n 3, 1) := by decide +kernel
theorem dL_law_1229 : decode cL_law 1229 = .ok (.invokestatic 152, 3) := by decide +kernel
theorem dL_law_1232 : decode cL_law 1232 = .ok (.istore 5, 2) := by decide +kernel
theorem dL_law_1234 : decode cL_law 1234 = .ok (.aload_n 2, 1) := by decide +kernel
theorem dL_law_1235 : decode cL_law 1235 = .ok (.aload_n 0, 1) := by decide +kernel
theorem dL_law_1236 : decode cL_law 1236 = .ok (.iload 4, 2) := by decide +kernel
theorem dL_law_1238 : decode cL_law 1238 = .ok (.iconst 1, 1) := by decide +kernel
theorem dL_law_1239 : decode cL_law 1239 = .ok (.iadd, 1) := by decide +kernel
theorem dL_law_1240 : decode cL_law 1240 = .ok (.iaload, 1) := by decide +kernel
theorem dL_law_1241 : decode cL_law 1241 = .ok (.aload_n 0, 1) := by decide +kernel
theorem dL_law_1242 : decode cL_law 1242 = .ok (.iload 4, 2) := by decide +kernel
theorem dL_law_1244 : decode cL_law 1244 = .ok (.iconst 2, 1) := by decide +kernel
theorem dL_law_1245 : decode cL_law 1245 = .ok (.iadd, 1) := by decide +kernel
theorem dL_law_1246 : decode cL_law 1246 = .ok (.iaload, 1) := by decide +kernel
theorem dL_law_1247 : decode cL_law 1247 = .ok (.invokevirtual 154, 3) := by decide +kernel
theorem dL_law_1250 : decode cL_law 1250 = .ok (.istore 6, 2) := by decide +kernel
theorem dL_law_1252 : decode cL_law 1252 = .ok (.aload_n 2, 1) := by decide +kernel
theorem dL_law_1253 : decode cL_law 1253 = .ok (.invokevirtual 98, 3) := by decide +kernel
theorem dL_law_1256 : decode cL_law 1256 = .ok (.iload 5, 2) := by decide +kernel
theorem dL_law_1258 : decode cL_law 1258 = .ok (.if_icmp .eq 5, 3) := by decide +kernel
theorem dL_law_1261 : decode cL_law 1261 = .ok (.iconst 0, 1) := by decide +kernel
theorem dL_law_1262 : decode cL_law 1262 = .ok (.ireturn, 1) := by decide +kernel
theorem dL_law_1263 : decode cL_law 1263 = .ok (.iload 5, 2) := by decide +kernel
theorem dL_law_1265 : decode cL_law 1265 = .ok (.ifCond .ne 15, 3) := by decide +kernel
theorem dL_law_1268 : decode cL_law 1268 = .ok (.aload_n 3, 1) := by decide +kernel
theorem dL_law_1269 : decode cL_law 1269 = .ok (.iconst 0, 1) := by decide +kernel
theorem dL_law_1270 : decode cL_law 1270 = .ok (.laload, 1) := by decide +kernel
theorem dL_law_1271 : decode cL_law 1271 = .ok (.iload 6, 2) := by decide +kernel
theorem dL_law_1273 : decode cL_law 1273 = .ok (.i2l, 1) := by decide +kernel
theorem dL_law_1274 : decode cL_law 1274 = .ok (.lcmp, 1) := by decide +kernel
theorem dL_law_1275 : decode cL_law 1275 = .ok (.ifCond .eq 5, 3) := by decide +kernel
theorem dL_law_1278 : decode cL_law 1278 = .ok (.iconst 0, 1) := by decide +kernel
theorem dL_law_1279 : decode cL_law 1279 = .ok (.ireturn, 1) := by decide +kernel
theorem dL_law_1280 : decode cL_law 1280 = .ok (.goto 348, 3) := by decide +kernel
theorem dL_law_1283 : decode cL_law 1283 = .ok (.aload_n 1, 1) := by decide +kernel
theorem dL_law_1284 : decode cL_law 1284 = .ok (.aload_n 0, 1) := by decide +kernel
theorem dL_law_1285 : decode cL_law 1285 = .ok (.iload 4, 2) := by decide +kernel
theorem dL_law_1287 : decode cL_law 1287 = .ok (.iconst 1, 1) := by decide +kernel
theorem dL_law_1288 : decode cL_law 1288 = .ok (.iadd, 1) := by decide +kernel
theorem dL_law_1289 : decode cL_law 1289 = .ok (.iaload, 1) := by decide +kernel
theorem dL_law_1290 : decode cL_law 1290 = .ok (.aload_n 0, 1) := by decide +kernel
theorem dL_law_1291 : decode cL_law 1291 = .ok (.iload 4, 2) := by decide +kernel
theorem dL_law_1293 : decode cL_law 1293 = .ok (.iconst 2, 1) := by decide +kernel
theorem dL_law_1294 : decode cL_law 1294 = .ok (.iadd, 1) := by decide +kernel
theorem dL_law_1295 : decode cL_law 1295 = .ok (.iaload, 1) := by decide +kernel
theorem dL_law_1296 : decode cL_law 1296 = .ok (.aload_n 0, 1) := by decide +kernel
theorem dL_law_1297 : decode cL_law 1297 = .ok (.iload 4, 2) := by decide +kernel
theorem dL_law_1299 : decode cL_law 1299 = .ok (.iconst 3, 1) := by decide +kernel
theorem dL_law_1300 : decode cL_law 1300 = .ok (.iadd, 1) := by decide +kernel
theorem dL_law_1301 : decode cL_law 1301 = .ok (.iaload, 1) := by decide +kernel
theorem dL_law_1302 : decode cL_law 1302 = .ok (.ifCond .eq 7, 3) := by decide +kernel
theorem dL_law_1305 : decode cL_law 1305 = .ok (.iconst 1, 1) := by decide +kernel
theorem dL_law_1306 : decode cL_law 1306 = .ok (.goto 4, 3) := by decide +kernel
theorem dL_law_1309 : decode cL_law 1309 = .ok (.iconst 0, 1) := by decide +kernel
theorem dL_law_1310 : decode cL_law 1310 = .ok (.aload_n 3, 1) := by decide +kernel
theorem dL_law_1311 : decode cL_law 1311 = .ok (.invokestatic 155, 3) := by decide +kernel
theorem dL_law_1314 : decode cL_law 1314 = .ok (.istore 5, 2) := by decide +kernel
theorem dL_law_1316 : decode cL_law 1316 = .ok (.aload_n 2, 1) := by decide +kernel
theorem dL_law_1317 : decode cL_law 1317 = .ok (.aload_n 0, 1) := by decide +kernel
theorem dL_law_1318 : decode cL_law 1318 = .ok (.iload 4, 2) := by decide +kernel
theorem dL_law_1320 : decode cL_law 1320 = .ok (.iconst 1, 1) := by decide +kernel
theorem dL_law_1321 : decode cL_law 1321 = .ok (.iadd, 1) := by decide +kernel
theorem dL_law_1322 : decode cL_law 1322 = .ok (.iaload, 1) := by decide +kernel
theorem dL_law_1323 : decode cL_law 1323 = .ok (.aload_n 0, 1) := by decide +kernel
theorem dL_law_1324 : decode cL_law 1324 = .ok (.iload 4, 2) := by decide +kernel
theorem dL_law_1326 : decode cL_law 1326 = .ok (.iconst 2, 1) := by decide +kernel
theorem dL_law_1327 : decode cL_law 1327 = .ok (.iadd, 1) := by decide +kernel
theorem dL_law_1328 : decode cL_law 1328 = .ok (.iaload, 1) := by decide +kernel
theorem dL_law_1329 : decode cL_law 1329 = .ok (.aload_n 0, 1) := by decide +kernel
theorem dL_law_1330 : decode cL_law 1330 = .ok (.iload 4, 2) := by decide +kernel
theorem dL_law_1332 : decode cL_law 1332 = .ok (.iconst 3, 1) := by decide +kernel
theorem dL_law_1333 : decode cL_law 1333 = .ok (.iadd, 1) := by decide +kernel
theorem dL_law_1334 : decode cL_law 1334 = .ok (.iaload, 1) := by decide +kernel
theorem dL_law_1335 : decode cL_law 1335 = .ok (.ifCond .eq 7, 3) := by decide +kernel
theorem dL_law_1338 : decode cL_law 1338 = .ok (.iconst 1, 1) := by decide +kernel
theorem dL_law_1339 : decode cL_law 1339 = .ok (.goto 4, 3) := by decide +kernel
theorem dL_law_1342 : decode cL_law 1342 = .ok (.iconst 0, 1) := by decide +kernel
theorem dL_law_1343 : decode cL_law 1343 = .ok (.invokevirtual 157, 3) := by decide +kernel
theorem dL_law_1346 : decode cL_law 1346 = .ok (.istore 6, 2) := by decide +kernel
theorem dL_law_1348 : decode cL_law 1348 = .ok (.aload_n 2, 1) := by decide +kernel
theorem dL_law_1349 : decode cL_law 1349 = .ok (.invokevirtual 98, 3) := by decide +kernel
theorem dL_law_1352 : decode cL_law 1352 = .ok (.iload 5, 2) := by decide +kernel
theorem dL_law_1354 : decode cL_law 1354 = .ok (.if_icmp .eq 5, 3) := by decide +kernel
theorem dL_law_1357 : decode cL_law 1357 = .ok (.iconst 0, 1) := by decide +kernel
theorem dL_law_1358 : decode cL_law 1358 = .ok (.ireturn, 1) := by decide +kernel
theorem dL_law_1359 : decode cL_law 1359 = .ok (.iload 5, 2) := by decide +kernel
theorem dL_law_1361 : decode cL_law 1361 = .ok (.ifCond .ne 15, 3) := by decide +kernel
theorem dL_law_1364 : decode cL_law 1364 = .ok (.aload_n 3, 1) := by decide +kernel
theorem dL_law_1365 : decode cL_law 1365 = .ok (.iconst 0, 1) := by decide +kernel
theorem dL_law_1366 : decode cL_law 1366 = .ok (.laload, 1) := by decide +kernel
theorem dL_law_1367 : decode cL_law 1367 = .ok (.iload 6, 2) := by decide +kernel
theorem dL_law_1369 : decode cL_law 1369 = .ok (.i2l, 1) := by decide +kernel
theorem dL_law_1370 : decode cL_law 1370 = .ok (.lcmp, 1) := by decide +kernel
theorem dL_law_1371 : decode cL_law 1371 = .ok (.ifCond .eq 5, 3) := by decide +kernel
theorem dL_law_1374 : decode cL_law 1374 = .ok (.iconst 0, 1) := by decide +kernel
theorem dL_law_1375 : decode cL_law 1375 = .ok (.ireturn, 1) := by decide +kernel
theorem dL_law_1376 : decode cL_law 1376 = .ok (.goto 252, 3) := by decide +kernel
theorem dL_law_1379 : decode cL_law 1379 = .ok (.aload_n 1, 1) := by decide +kernel
theorem dL_law_1380 : decode cL_law 1380 = .ok (.aload_n 0, 1) := by decide +kernel
theorem dL_law_1381 : decode cL_law 1381 = .ok (.iload 4, 2) := by decide +kernel
theorem dL_law_1383 : decode cL_law 1383 = .ok (.iconst 1, 1) := by decide +kernel
theorem dL_law_1384 : decode cL_law 1384 = .ok (.iadd, 1) := by decide +kernel
theorem dL_law_1385 : decode cL_law 1385 = .ok (.iaload, 1) := by decide +kernel
theorem dL_law_1386 : decode cL_law 1386 = .ok (.aload_n 3, 1) := by decide +kernel
theorem dL_law_1387 : decode cL_law 1387 = .ok (.invokestatic 158, 3) := by decide +kernel
theorem dL_law_1390 : decode cL_law 1390 = .ok (.istore 5, 2) := by decide +kernel
theorem dL_law_1392 : decode cL_law 1392 = .ok (.aload_n 2, 1) := by decide +kernel
theorem dL_law_1393 : decode cL_law 1393 = .ok (.aload_n 0, 1) := by decide +kernel
theorem dL_law_1394 : decode cL_law 1394 = .ok (.iload 4, 2) := by decide +kernel
theorem dL_law_1396 : decode cL_law 1396 = .ok (.iconst 1, 1) := by decide +kernel
theorem dL_law_1397 : decode cL_law 1397 = .ok (.iadd, 1) := by decide +kernel
theorem dL_law_1398 : decode cL_law 1398 = .ok (.iaload, 1) := by decide +kernel
theorem dL_law_1399 : decode cL_law 1399 = .ok (.invokevirtual 160, 3) := by decide +kernel
theorem dL_law_1402 : decode cL_law 1402 = .ok (.istore 6, 2) := by decide +kernel
theorem dL_law_1404 : decode cL_law 1404 = .ok (.aload_n 2, 1) := by decide +kernel
theorem dL_law_1405 : decode cL_law 1405 = .ok (.invokevirtual 98, 3) := by decide +kernel
theorem dL_law_1408 : decode cL_law 1408 = .ok (.iload 5, 2) := by decide +kernel
theorem dL_law_1410 : decode cL_law 1410 = .ok (.if_icmp .eq 5, 3) := by decide +kernel
theorem dL_law_1413 : decode cL_law 1413 = .ok (.iconst 0, 1) := by decide +kernel
theorem dL_law_1414 : decode cL_law 1414 = .ok (.ireturn, 1) := by decide +kernel
theorem dL_law_1415 : decode cL_law 1415 = .ok (.iload 5, 2) := by decide +kernel
theorem dL_law_1417 : decode cL_law 1417 = .ok (.ifCond .ne 15, 3) := by decide +kernel
theorem dL_law_1420 : decode cL_law 1420 = .ok (.aload_n 3, 1) := by decide +kernel
theorem dL_law_1421 : decode cL_law 1421 = .ok (.iconst 0, 1) := by decide +kernel
theorem dL_law_1422 : decode cL_law 1422 = .ok (.laload, 1) := by decide +kernel
theorem dL_law_1423 : decode cL_law 1423 = .ok (.iload 6, 2) := by decide +kernel
theorem dL_law_1425 : decode cL_law 1425 = .ok (.i2l, 1) := by decide +kernel
theorem dL_law_1426 : decode cL_law 1426 = .ok (.lcmp, 1) := by decide +kernel
theorem dL_law_1427 : decode cL_law 1427 = .ok (.ifCond .eq 5, 3) := by decide +kernel
theorem dL_law_1430 : decode cL_law 1430 = .ok (.iconst 0, 1) := by decide +kernel
theorem dL_law_1431 : decode cL_law 1431 = .ok (.ireturn, 1) := by decide +kernel
theorem dL_law_1432 : decode cL_law 1432 = .ok (.goto 196, 3) := by decide +kernel
theorem dL_law_1435 : decode cL_law 1435 = .ok (.aload_n 1, 1) := by decide +kernel
theorem dL_law_1436 : decode cL_law 1436 = .ok (.aload_n 0, 1) := by decide +kernel
theorem dL_law_1437 : decode cL_law 1437 = .ok (.iload 4, 2) := by decide +kernel
theorem dL_law_1439 : decode cL_law 1439 = .ok (.iconst 1, 1) := by decide +kernel
theorem dL_law_1440 : decode cL_law 1440 = .ok (.iadd, 1) := by decide +kernel
theorem dL_law_1441 : decode cL_law 1441 = .ok (.iaload, 1) := by decide +kernel
theorem dL_law_1442 : decode cL_law 1442 = .ok (.aload_n 0, 1) := by decide +kernel
theorem dL_law_1443 : decode cL_law 1443 = .ok (.iload 4, 2) := by decide +kernel
theorem dL_law_1445 : decode cL_law 1445 = .ok (.iconst 2, 1) := by decide +kernel
theorem dL_law_1446 : decode cL_law 1446 = .ok (.iadd, 1) := by decide +kernel
theorem dL_law_1447 : decode cL_law 1447 = .ok (.iaload, 1) := by decide +kernel
theorem dL_law_1448 : decode cL_law 1448 = .ok (.aload_n 3, 1) := by decide +kernel
theorem dL_law_1449 : decode cL_law 1449 = .ok (.invokestatic 161, 3) := by decide +kernel
theorem dL_law_1452 : decode cL_law 1452 = .ok (.istore 5, 2) := by decide +kernel
theorem dL_law_1454 : decode cL_law 1454 = .ok (.aload_n 2, 1) := by decide +kernel
theorem dL_law_1455 : decode cL_law 1455 = .ok (.aload_n 0, 1) := by decide +kernel
theorem dL_law_1456 : decode cL_law 1456 = .ok (.iload 4, 2) := by decide +kernel
theorem dL_law_1458 : decode cL_law 1458 = .ok (.iconst 1, 1) := by decide +kernel
theorem dL_law_1459 : decode cL_law 1459 = .ok (.iadd, 1) := by decide +kernel
theorem dL_law_1460 : decode cL_law 1460 = .ok (.iaload, 1) := by decide +kernel
theorem dL_law_1461 : decode cL_law 1461 = .ok (.aload_n 0, 1) := by decide +kernel
theorem dL_law_1462 : decode cL_law 1462 = .ok (.iload 4, 2) := by decide +kernel
theorem dL_law_1464 : decode cL_law 1464 = .ok (.iconst 2, 1) := by decide +kernel
theorem dL_law_1465 : decode cL_law 1465 = .ok (.iadd, 1) := by decide +kernel
theorem dL_law_1466 : decode cL_law 1466 = .ok (.iaload, 1) := by decide +kernel
theorem dL_law_1467 : decode cL_law 1467 = .ok (.invokevirtual 163, 3) := by decide +kernel
theorem dL_law_1470 : decode cL_law 1470 = .ok (.istore 6, 2) := by decide +kernel
theorem dL_law_1472 : decode cL_law 1472 = .ok (.aload_n 2, 1) := by decide +kernel
theorem dL_law_1473 : decode cL_law 1473 = .ok (.invokevirtual 98, 3) := by decide +kernel
theorem dL_law_1476 : decode cL_law 1476 = .ok (.iload 5, 2) := by decide +kernel
theorem dL_law_1478 : decode cL_law 1478 = .ok (.if_icmp .eq 5, 3) := by decide +kernel
theorem dL_law_1481 : decode cL_law 1481 = .ok (.iconst 0, 1) := by decide +kernel
theorem dL_law_1482 : decode cL_law 1482 = .ok (.ireturn, 1) := by decide +kernel
theorem dL_law_1483 : decode cL_law 1483 = .ok (.iload 5, 2) := by decide +kernel
theorem dL_law_1485 : decode cL_law 1485 = .ok (.ifCond .ne 15, 3) := by decide +kernel
theorem dL_law_1488 : decode cL_law 1488 = .ok (.aload_n 3, 1) := by decide +kernel
theorem dL_law_1489 : decode cL_law 1489 = .ok (.iconst 0, 1) := by decide +kernel
theorem dL_law_1490 : decode cL_law 1490 = .ok (.laload, 1) := by decide +kernel
theorem dL_law_1491 : decode cL_law 1491 = .ok (.iload 6, 2) := by decide +kernel
theorem dL_law_1493 : decode cL_law 1493 = .ok (.i2l, 1) := by decide +kernel
theorem dL_law_1494 : decode cL_law 1494 = .ok (.lcmp, 1) := by decide +kernel
theorem dL_law_1495 : decode cL_law 1495 = .ok (.ifCond .eq 5, 3) := by decide +kernel
theorem dL_law_1498 : decode cL_law 1498 = .ok (.iconst 0, 1) := by decide +kernel
theorem dL_law_1499 : decode cL_law 1499 = .ok (.ireturn, 1) := by decide +kernel
theorem dL_law_1500 : decode cL_law 1500 = .ok (.goto 128, 3) := by decide +kernel
theorem dL_law_1503 : decode cL_law 1503 = .ok (.aload_n 1, 1) := by decide +kernel
theorem dL_law_1504 : decode cL_law 1504 = .ok (.aload_n 0, 1) := by decide +kernel
theorem dL_law_1505 : decode cL_law 1505 = .ok (.iload 4, 2) := by decide +kernel
theorem dL_law_1507 : decode cL_law 1507 = .ok (.iconst 1, 1) := by decide +kernel
theorem dL_law_1508 : decode cL_law 1508 = .ok (.iadd, 1) := by decide +kernel
theorem dL_law_1509 : decode cL_law 1509 = .ok (.iaload, 1) := by decide +kernel
theorem dL_law_1510 : decode cL_law 1510 = .ok (.aload_n 3, 1) := by decide +kernel
theorem dL_law_1511 : decode cL_law 1511 = .ok (.invokestatic 164, 3) := by decide +kernel
theorem dL_law_1514 : decode cL_law 1514 = .ok (.istore 5, 2) := by decide +kernel
theorem dL_law_1516 : decode cL_law 1516 = .ok (.aload_n 2, 1) := by decide +kernel
theorem dL_law_1517 : decode cL_law 1517 = .ok (.aload_n 0, 1) := by decide +kernel
theorem dL_law_1518 : decode cL_law 1518 = .ok (.iload 4, 2) := by decide +kernel
theorem dL_law_1520 : decode cL_law 1520 = .ok (.iconst 1, 1) := by decide +kernel
theorem dL_law_1521 : decode cL_law 1521 = .ok (.iadd, 1) := by decide +kernel
theorem dL_law_1522 : decode cL_law 1522 = .ok (.iaload, 1) := by decide +kernel
theorem dL_law_1523 : decode cL_law 1523 = .ok (.invokevirtual 166, 3) := by decide +kernel
theorem dL_law_1526 : decode cL_law 1526 = .ok (.istore 6, 2) := by decide +kernel
theorem dL_law_1528 : decode cL_law 1528 = .ok (.aload_n 2, 1) := by decide +kernel
theorem dL_law_1529 : decode cL_law 1529 = .ok (.invokevirtual 98, 3) := by decide +kernel
theorem dL_law_1532 : decode cL_law 1532 = .ok (.iload 5, 2) := by decide +kernel
theorem dL_law_1534 : decode cL_law 1534 = .ok (.if_icmp .eq 5, 3) := by decide +kernel
theorem dL_law_1537 : decode cL_law 1537 = .ok (.iconst 0, 1) := by decide +kernel
theorem dL_law_1538 : decode cL_law 1538 = .ok (.ireturn, 1) := by decide +kernel
theorem dL_law_1539 : decode cL_law 1539 = .ok (.iload 5, 2) := by decide +kernel
theorem dL_law_1541 : decode cL_law 1541 = .ok (.ifCond .ne 15, 3) := by decide +kernel
theorem dL_law_1544 : decode cL_law 1544 = .ok (.aload_n 3, 1) := by decide +kernel
theorem dL_law_1545 : decode cL_law 1545 = .ok (.iconst 0, 1) := by decide +kernel
theorem dL_law_1546 : decode cL_law 1546 = .ok (.laload, 1) := by decide +kernel
theorem dL_law_1547 : decode cL_law 1547 = .ok (.iload 6, 2) := by decide +kernel
theorem dL_law_1549 : decode cL_law 1549 = .ok (.i2l, 1) := by decide +kernel
theorem dL_law_1550 : decode cL_law 1550 = .ok (.lcmp, 1) := by decide +kernel
theorem dL_law_1551 : decode cL_law 1551 = .ok (.ifCond .eq 5, 3) := by decide +kernel
theorem dL_law_1554 : decode cL_law 1554 = .ok (.iconst 0, 1) := by decide +kernel
theorem dL_law_1555 : decode cL_law 1555 = .ok (.ireturn, 1) := by decide +kernel
theorem dL_law_1556 : decode cL_law 1556 = .ok (.goto 72, 3) := by decide +kernel
theorem dL_law_1559 : decode cL_law 1559 = .ok (.aload_n 1, 1) := by decide +kernel
theorem dL_law_1560 : decode cL_law 1560 = .ok (.aload_n 0, 1) := by decide +kernel
theorem dL_law_1561 : decode cL_law 1561 = .ok (.iload 4, 2) := by decide +kernel
theorem dL_law_1563 : decode cL_law 1563 = .ok (.iconst 1, 1) := by decide +kernel
theorem dL_law_1564 : decode cL_law 1564 = .ok (.iadd, 1) := by decide +kernel
theorem dL_law_1565 : decode cL_law 1565 = .ok (.iaload, 1) := by decide +kernel
theorem dL_law_1566 : decode cL_law 1566 = .ok (.aload_n 3, 1) := by decide +kernel
theorem dL_law_1567 : decode cL_law 1567 = .ok (.invokestatic 167, 3) := by decide +kernel
theorem dL_law_1570 : decode cL_law 1570 = .ok (.istore 5, 2) := by decide +kernel
theorem dL_law_1572 : decode cL_law 1572 = .ok (.aload_n 2, 1) := by decide +kernel
theorem dL_law_1573 : decode cL_law 1573 = .ok (.aload_n 0, 1) := by decide +kernel
theorem dL_law_1574 : decode cL_law 1574 = .ok (.iload 4, 2) := by decide +kernel
theorem dL_law_1576 : decode cL_law 1576 = .ok (.iconst 1, 1) := by decide +kernel
theorem dL_law_1577 : decode cL_law 1577 = .ok (.iadd, 1) := by decide +kernel
theorem dL_law_1578 : decode cL_law 1578 = .ok (.iaload, 1) := by decide +kernel
theorem dL_law_1579 : decode cL_law 1579 = .ok (.invokevirtual 169, 3) := by decide +kernel
theorem dL_law_1582 : decode cL_law 1582 = .ok (.istore 6, 2) := by decide +kernel
theorem dL_law_1584 : decode cL_law 1584 = .ok (.aload_n 2, 1) := by decide +kernel
theorem dL_law_1585 : decode cL_law 1585 = .ok (.invokevirtual 98, 3) := by decide +kernel
theorem dL_law_1588 : decode cL_law 1588 = .ok (.iload 5, 2) := by decide +kernel
theorem dL_law_1590 : decode cL_law 1590 = .ok (.if_icmp .eq 5, 3) := by decide +kernel
theorem dL_law_1593 : decode cL_law 1593 = .ok (.iconst 0, 1) := by decide +kernel
theorem dL_law_1594 : decode cL_law 1594 = .ok (.ireturn, 1) := by decide +kernel
theorem dL_law_1595 : decode cL_law 1595 = .ok (.iload 5, 2) := by decide +kernel
theorem dL_law_1597 : decode cL_law 1597 = .ok (.ifCond .ne 15, 3) := by decide +kernel
end
section
theorem dL_law_1600 : decode cL_law 1600 = .ok (.aload_n 3, 1) := by decide +kernel
theorem dL_law_1601 : decode cL_law 1601 = .ok (.iconst 0, 1) := by decide +kernel
theorem dL_law_1602 : decode cL_law 1602 = .ok (.laload, 1) := by decide +kernel
theorem dL_law_1603 : decode cL_law 1603 = .ok (.iload 6, 2) := by decide +kernel
theorem dL_law_1605 : decode cL_law 1605 = .ok (.i2l, 1) := by decide +kernel
theorem dL_law_1606 : decode cL_law 1606 = .ok (.lcmp, 1) := by decide +kernel
theorem dL_law_1607 : decode cL_law 1607 = .ok (.ifCond .eq 5, 3) := by decide +kernel
theorem dL_law_1610 : decode cL_law 1610 = .ok (.iconst 0, 1) := by decide +kernel
theorem dL_law_1611 : decode cL_law 1611 = .ok (.ireturn, 1) := by decide +kernel
theorem dL_law_1612 : decode cL_law 1612 = .ok (.goto 16, 3) := by decide +kernel
theorem dL_law_1615 : decode cL_law 1615 = .ok (.aload_n 1, 1) := by decide +kernel
theorem dL_law_1616 : decode cL_law 1616 = .ok (.invokevirtual 170, 3) := by decide +kernel
theorem dL_law_1619 : decode cL_law 1619 = .ok (.aload_n 2, 1) := by decide +kernel
theorem dL_law_1620 : decode cL_law 1620 = .ok (.invokevirtual 173, 3) := by decide +kernel
theorem dL_law_1623 : decode cL_law 1623 = .ok (.if_icmp .eq 5, 3) := by decide +kernel
theorem dL_law_1626 : decode cL_law 1626 = .ok (.iconst 0, 1) := by decide +kernel
theorem dL_law_1627 : decode cL_law 1627 = .ok (.ireturn, 1) := by decide +kernel
theorem dL_law_1628 : decode cL_law 1628 = .ok (.iinc 4 6, 3) := by decide +kernel
theorem dL_law_1631 : decode cL_law 1631 = .ok (.goto (-1608), 3) := by decide +kernel
theorem dL_law_1634 : decode cL_law 1634 = .ok (.iconst 1, 1) := by decide +kernel
theorem dL_law_1635 : decode cL_law 1635 = .ok (.ireturn, 1) := by decide +kernel
end
section
section OVB
/-- the tables' numbers of the classes and of the rows' classes: ints, booleans, Tables, Cursors, longs -/
abbrev Gx : Type := va_G × (Nat → ClassId)
def ov_ty (G : Gx) : List (ClassId × FieldType) := [(G.2 0, .int), (G.2 1, .boolean), (G.2 2, .object RX1), (G.2 3, .object RX0), (G.2 4, .long)]
/-- ONE world: N cells, the k-th at ad k, with f k in it -/
def ov_wl (N : Nat) (ad : Nat → Nat) (f : Nat → va_E) : va_W := (List.range N).map (fun k => (ad k, f k))
abbrev eI (G : Gx) (n : Nat) (g : Nat → Int32) : va_E := .inl (G.2 0, n, .inl g)
abbrev eZ (G : Gx) (n : Nat) (g : Nat → Int32) : va_E := .inl (G.2 1, n, .inl g)
abbrev eT (G : Gx) (n : Nat) (g : Nat → Option Nat) : va_E := .inl (G.2 2, n, .inr (.inr (.inr (.inr g))))
abbrev eU (G : Gx) (n : Nat) (g : Nat → Option Nat) : va_E := .inl (G.2 3, n, .inr (.inr (.inr (.inr g))))
abbrev eJ (G : Gx) (n : Nat) (g : Nat → Int64) : va_E := .inl (G.2 4, n, .inr (.inl g))
theorem ov_get {N : Nat} {ad : Nat → Nat} {f : Nat → va_E} {k : Nat} {e : va_E} (hk : k < N) (hf : f k = e) : (ov_wl N ad f)[k]? = some (ad k, e) := by
  simp [ov_wl, hk, hf]
theorem ov_set {N : Nat} {ad : Nat → Nat} {f : Nat → va_E} {k : Nat} {e : va_E} (hk : k < N) : (ov_wl N ad f).set k (ad k, e) = ov_wl N ad (va_up f k e) := by
  refine List.ext_getElem? fun i => ?_
  simp only [ov_wl, List.getElem?_set, List.length_map, List.length_range, List.getElem?_map]
  by_cases h : k = i
  · subst h
    simp [hk, va_up]
  · have h2 : ¬ i = k := fun q => h q.symm
    by_cases hi : i < N
    · simp [h, h2, hi, va_up]
    · simp [h, hi]
def ov_A (s0 : Nat) : Nat → Prop := fun q => s0 ≤ q
def ov_Z (s0 : Nat) (U : State) (H : Heap) : Prop := vx_Zq Bundle.tN "UNASSIGNED_STACK" Bundle.steD (ov_A s0) U H ∧ vx_Zq Bundle.tN "SUPPRESSED_SENTINEL" Bundle.listD (ov_A s0) U H
theorem ov_Z.moved {s0 : Nat} {u U : State} {H : Heap} (hvm : u.vm.Alike U.vm) (h : ov_Z s0 u H) : ov_Z s0 U H := ⟨h.1.moved hvm, h.2.moved hvm⟩
theorem ov_Z.kept {s0 : Nat} {U : State} {H H1 : Heap} (h : ov_Z s0 U H) (hq : ∀ a : Nat, a < H.size → ¬ ov_A s0 a → H1[a]? = H[a]?) : ov_Z s0 U H1 := ⟨h.1.kept hq, h.2.kept hq⟩
/-- a state holds the world -/
def ov_wo (G : Gx) (N : Nat) (ad : Nat → Nat) (s0 : Nat) (f : Nat → va_E) (U : State) : Prop :=
  va_P G.1 vwCl (ov_wl N ad f) U.heap ∧ va_D (ov_A s0) (ov_wl N ad f) ∧ va_K G.1 vwCl (ov_ty G) U ∧ ov_Z s0 U U.heap ∧ s0 ≤ U.heap.size
/-- inside a body: the heap holds the world, and what was outside is as it was at the entry -/
def ov_dy (G : Gx) (N : Nat) (ad : Nat → Nat) (s0 : Nat) (s : State) (f : Nat → va_E) (H : Heap) (locs : List Loc) : Prop :=
  va_P G.1 vwCl (ov_wl N ad f) H ∧ va_D (ov_A s0) (ov_wl N ad f) ∧ va_S (ov_A s0) s.heap H locs ∧ va_K G.1 vwCl (ov_ty G) s ∧ ov_Z s0 s s.heap ∧ s0 ≤ s.heap.size
theorem ov_dy.of {G : Gx} {N : Nat} {ad : Nat → Nat} {s0 : Nat} {s : State} {f : Nat → va_E} (h : ov_wo G N ad s0 f s) : ov_dy G N ad s0 s f s.heap [] := ⟨h.1, h.2.1, va_S.rf, h.2.2.1, h.2.2.2.1, h.2.2.2.2⟩
theorem ov_dy.wo {G : Gx} {N : Nat} {ad : Nat → Nat} {s0 : Nat} {s : State} {f : Nat → va_E} {H : Heap} {locs : List Loc} (h : ov_dy G N ad s0 s f H locs) {t : State} (ht : t.heap = H) (hv : s.vm.Alike t.vm) : ov_wo G N ad s0 f t := by
  obtain ⟨hP, hD, hS, hK, hZ, hz⟩ := h
  exact ⟨by rw [ht]; exact hP, hD, hK.moved hv, by rw [ht]; exact (hZ.kept hS.2.1).moved hv, by rw [ht]; exact Nat.le_trans hz hS.1⟩
theorem ov_dy.next {G : Gx} {N : Nat} {ad : Nat → Nat} {s0 : Nat} {s t : State} {f f' : Nat → va_E} {H H1 : Heap} {locs locs1 : List Loc} (h : ov_dy G N ad s0 s f H locs) (hw : ov_wo G N ad s0 f' t) (ht : t.heap = H1) (hS : va_S (ov_A s0) s.heap H1 locs1) : ov_dy G N ad s0 s f' H1 locs1 :=
  ⟨by rw [← ht]; exact hw.1, hw.2.1, hS, h.2.2.2.1, h.2.2.2.2.1, h.2.2.2.2.2⟩
theorem ov_blind {G : Gx} {N : Nat} {ad : Nat → Nat} {s0 : Nat} {f : Nat → va_E} {av : List Value} : FrameBlind (va_Pc av (ov_wo G N ad s0 f)) := fun a U g mk h =>
  ⟨h.1, h.2.1, h.2.2.1, va_K.moved (u := U) (U := U.calling g mk a) (Vm.Alike.refl U.vm) h.2.2.2.1, ov_Z.moved (u := U) (U := U.calling g mk a) (Vm.Alike.refl U.vm) h.2.2.2.2.1, h.2.2.2.2.2⟩
abbrev ov_rm (fr lo mc ms : Nat) : Room := { frames := fr, cells := mc, slots := ms, locals := lo }
/-- contracts over the one world: answers an int, nothing, a long, a cell of the world; the last four may throw, the world as it was -/
abbrev mI (l : Launch) (y : MethodName) (ws : List Cond) (fr lo mc ms : Nat) (As : List Value) (G : Gx) (N : Nat) (ad : Nat → Nat) (s0 : Nat) (f : Nat → va_E) (post : Int32 → (Nat → va_E) → Prop) : Prop :=
  Met l y ws (ov_rm fr lo mc ms) (va_Pc As (ov_wo G N ad s0 f)) (va_Qi post (ov_wo G N ad s0) (ov_A s0)) mc ms (ov_A s0)
abbrev mV (l : Launch) (y : MethodName) (ws : List Cond) (fr lo mc ms : Nat) (As : List Value) (G : Gx) (N : Nat) (ad : Nat → Nat) (s0 : Nat) (f : Nat → va_E) (post : (Nat → va_E) → Prop) : Prop :=
  Met l y ws (ov_rm fr lo mc ms) (va_Pc As (ov_wo G N ad s0 f)) (va_Qv post (ov_wo G N ad s0) (ov_A s0)) mc ms (ov_A s0)
abbrev mL (l : Launch) (y : MethodName) (ws : List Cond) (fr lo mc ms : Nat) (As : List Value) (G : Gx) (N : Nat) (ad : Nat → Nat) (s0 : Nat) (f : Nat → va_E) (post : Int64 → (Nat → va_E) → Prop) : Prop :=
  Met l y ws (ov_rm fr lo mc ms) (va_Pc As (ov_wo G N ad s0 f)) (va_Ql post (ov_wo G N ad s0) (ov_A s0)) mc ms (ov_A s0)
abbrev ov_XC (G : Gx) (N : Nat) (ad : Nat → Nat) (s0 : Nat) (f : Nat → va_E) (PX : String → Prop) : String → State → State → Prop := vx_X (fun _ : Unit => True) (fun E _ t => PX E ∧ ov_wo G N ad s0 f t) (ov_A s0)
abbrev xI (l : Launch) (y : MethodName) (ws : List Cond) (fr lo mc ms : Nat) (As : List Value) (G : Gx) (N : Nat) (ad : Nat → Nat) (s0 : Nat) (f : Nat → va_E) (PX : String → Prop) (post : Int32 → (Nat → va_E) → Prop) : Prop :=
  vx_Met l y ws (ov_rm fr lo mc ms) (va_Pc As (ov_wo G N ad s0 f)) (va_Qi post (ov_wo G N ad s0) (ov_A s0)) (ov_XC G N ad s0 f PX) mc ms (ov_A s0)
abbrev xL (l : Launch) (y : MethodName) (ws : List Cond) (fr lo mc ms : Nat) (As : List Value) (G : Gx) (N : Nat) (ad : Nat → Nat) (s0 : Nat) (f : Nat → va_E) (PX : String → Prop) (post : Int64 → (Nat → va_E) → Prop) : Prop :=
  vx_Met l y ws (ov_rm fr lo mc ms) (va_Pc As (ov_wo G N ad s0 f)) (va_Ql post (ov_wo G N ad s0) (ov_A s0)) (ov_XC G N ad s0 f PX) mc ms (ov_A s0)
/-- a cell of the world, by its number -/
def ov_Qr (post : Nat → (Nat → va_E) → Prop) (G : Gx) (N : Nat) (ad : Nat → Nat) (s0 : Nat) : Array Value → State → Outcome → State → Prop := fun _ st oc t => (∃ (r : Nat) (u : Nat → va_E), oc = .returned (some (.ref (ad r))) ∧ post r u ∧ ov_wo G N ad s0 u t) ∧ va_F (ov_A s0) st t
abbrev xR (l : Launch) (y : MethodName) (ws : List Cond) (fr lo mc ms : Nat) (As : List Value) (G : Gx) (N : Nat) (ad : Nat → Nat) (s0 : Nat) (f : Nat → va_E) (PX : String → Prop) (post : Nat → (Nat → va_E) → Prop) : Prop :=
  vx_Met l y ws (ov_rm fr lo mc ms) (va_Pc As (ov_wo G N ad s0 f)) (ov_Qr post G N ad s0) (ov_XC G N ad s0 f PX) mc ms (ov_A s0)
end OVB
end
section
section OVR
variable {p : Program} {l : Launch} {e : Env} {R : Room} {s : State} {m : MethodId} {args : Array Value} {below : List Frame} {meth : Method} {c : Code} {H : Heap} {locs : List Loc} {cells slots : Nat} {Q : State → Prop}
variable {cc : ByteArray} {pc : Nat} {ls : Array Slot} {rest : List Value} {Ts : List Cond} {own : String} {nL : Nat}
variable {G : Gx} {N : Nat} {ad : Nat → Nat} {s0 : Nat} {f : Nat → va_E}
theorem ov_dy.up {a : Nat} {x : va_E} {H1 : Heap} {locs1 : List Loc} (h : ov_dy G N ad s0 s f H locs) (ha : a < N) (h1 : va_P G.1 vwCl ((ov_wl N ad f).set a (ad a, x)) H1) (h2 : va_D (ov_A s0) ((ov_wl N ad f).set a (ad a, x))) (h3 : va_S (ov_A s0) s.heap H1 locs1) : ov_dy G N ad s0 s (va_up f a x) H1 locs1 := by
  rw [ov_set ha] at h1 h2
  exact ⟨h1, h2, h3, h.2.2.2.1, h.2.2.2.2.1, h.2.2.2.2.2⟩
/-! heap rows -/
theorem o_get (S : CallFix p m c cc nL s args Ts own) (hG : ov_dy G N ad s0 s f H locs) {C : String} {T : u_T} {n ci index : Nat} (hin : ∀ w ∈ u_ws C T n, w ∈ Ts) {a : Nat} (ha : a < N) {fs : List Value} (he : f a = .inr (ci, fs)) (hc : vwCl[ci]? = some (C, T, n)) (k : Nat) (hk : k < n)
    (hlink : (Cond.fieldLink own index (T k).1 (T k).2.1 (T k).2.2.1).before args s = true) {v : Value} (hv : fs[k]? = some v) (hdg : decode cc pc = .ok (.getfield index, 3))
    (kk : W p l e R s m args below meth c H locs cells slots Q (F0 m (pc + 3) ls (v :: rest))) : W p l e R s m args below meth c H locs cells slots Q (F0 m pc ls (.ref (ad a) :: rest)) :=
  va_get S.1 S.2.1 S.2.2.2.2 hin S.2.2.2.1 hG.2.2.2.1 hG.1 a (ov_get ha he) hc k hk hlink (fun _ h => h) hv hdg kk
theorem o_put (S : CallFix p m c cc nL s args Ts own) (hG : ov_dy G N ad s0 s f H locs) {C : String} {T : u_T} {n ci index : Nat} (hin : ∀ w ∈ u_ws C T n, w ∈ Ts) {ty0 : Nat → FieldType} (hty : ∀ k, k < n → parseFieldDescriptor (T k).2.2.1 = some (ty0 k)) (hnm : ∀ a, a < n → ∀ b, b < n → a ≠ b → (T a).2.1 ≠ (T b).2.1) {a : Nat} (ha : a < N) {fs : List Value} (he : f a = .inr (ci, fs)) (hc : vwCl[ci]? = some (C, T, n)) (k : Nat) (hk : k < n)
    (hlink : (Cond.fieldLink own index (T k).1 (T k).2.1 (T k).2.2.1).before args s = true) (hfin : (T k).2.2.2 = false) {v : Value} (hn : narrow (ty0 k) v = v) (hfit : fits (ty0 k) v = true) (hl : k < fs.length) (hdg : decode cc pc = .ok (.putfield index, 3))
    (kk : ∀ (H1 : Heap) (locs1 : List Loc), ov_dy G N ad s0 s (va_up f a (.inr (ci, fs.set k v))) H1 locs1 → W p l e R s m args below meth c H1 locs1 cells slots Q (F0 m (pc + 3) ls rest)) : W p l e R s m args below meth c H locs cells slots Q (F0 m pc ls (v :: .ref (ad a) :: rest)) :=
  va_put S.1 S.2.1 S.2.2.2.2 hin ty0 hty hnm S.2.2.2.1 hG.2.2.2.1 hG.1 hG.2.1 hG.2.2.1 a (ov_get ha he) hc k hk hlink (fun _ h => h) hfin (hty k hk) hn hfit hl hdg (fun H1 l1 h1 h2 h3 => kk H1 l1 (hG.up ha h1 h2 h3))
theorem o_iald (S : CallFix p m c cc nL s args Ts own) (hG : ov_dy G N ad s0 s f H locs) {a n j : Nat} {g : Nat → Int32} (ha : a < N) (he : f a = eI G n g) (hj : j < n) (hdg : decode cc pc = .ok (.iaload, 1)) (hn : n < 2 ^ 31 := by decide)
    (kk : W p l e R s m args below meth c H locs cells slots Q (F0 m (pc + 1) ls (.int (g j) :: rest))) : W p l e R s m args below meth c H locs cells slots Q (F0 m pc ls (.int (nI j) :: .ref (ad a) :: rest)) :=
  va_iald S.1 S.2.1 hG.2.2.2.1 hG.1 a 0 (ov_get ha he) rfl (vp_in_nI hj hn) hdg (by rw [nI_clamp (Nat.lt_trans hj hn)]; exact kk)
theorem o_zald (S : CallFix p m c cc nL s args Ts own) (hG : ov_dy G N ad s0 s f H locs) {a n j : Nat} {g : Nat → Int32} (ha : a < N) (he : f a = eZ G n g) (hj : j < n) (hdg : decode cc pc = .ok (.baload, 1)) (hn : n < 2 ^ 31 := by decide)
    (kk : W p l e R s m args below meth c H locs cells slots Q (F0 m (pc + 1) ls (.int (g j) :: rest))) : W p l e R s m args below meth c H locs cells slots Q (F0 m pc ls (.int (nI j) :: .ref (ad a) :: rest)) :=
  va_zald S.1 S.2.1 hG.2.2.2.1 hG.1 a 1 (ov_get ha he) rfl (vp_in_nI hj hn) hdg (by rw [nI_clamp (Nat.lt_trans hj hn)]; exact kk)
theorem o_lald (S : CallFix p m c cc nL s args Ts own) (hG : ov_dy G N ad s0 s f H locs) {a n j : Nat} {g : Nat → Int64} (ha : a < N) (he : f a = eJ G n g) (hj : j < n) (hdg : decode cc pc = .ok (.laload, 1)) (hn : n < 2 ^ 31 := by decide)
    (kk : W p l e R s m args below meth c H locs cells slots Q (F0 m (pc + 1) ls (.long (g j) :: rest))) : W p l e R s m args below meth c H locs cells slots Q (F0 m pc ls (.int (nI j) :: .ref (ad a) :: rest)) :=
  va_lald S.1 S.2.1 hG.2.2.2.1 hG.1 a 4 (ov_get ha he) rfl (vp_in_nI hj hn) hdg (by rw [nI_clamp (Nat.lt_trans hj hn)]; exact kk)
theorem o_Tald (S : CallFix p m c cc nL s args Ts own) (hG : ov_dy G N ad s0 s f H locs) {a n j r : Nat} {g : Nat → Option Nat} (ha : a < N) (he : f a = eT G n g) (hj : j < n) (hr : g j = some r) (hdg : decode cc pc = .ok (.aaload, 1)) (hn : n < 2 ^ 31 := by decide)
    (kk : W p l e R s m args below meth c H locs cells slots Q (F0 m (pc + 1) ls (.ref r :: rest))) : W p l e R s m args below meth c H locs cells slots Q (F0 m pc ls (.int (nI j) :: .ref (ad a) :: rest)) :=
  va_aldq S.1 S.2.1 hG.2.2.2.1 hG.1 a 2 (ov_get ha he) rfl (vp_in_nI hj hn) hdg (by rw [nI_clamp (Nat.lt_trans hj hn), hr]; exact kk)
theorem o_Uald (S : CallFix p m c cc nL s args Ts own) (hG : ov_dy G N ad s0 s f H locs) {a n j r : Nat} {g : Nat → Option Nat} (ha : a < N) (he : f a = eU G n g) (hj : j < n) (hr : g j = some r) (hdg : decode cc pc = .ok (.aaload, 1)) (hn : n < 2 ^ 31 := by decide)
    (kk : W p l e R s m args below meth c H locs cells slots Q (F0 m (pc + 1) ls (.ref r :: rest))) : W p l e R s m args below meth c H locs cells slots Q (F0 m pc ls (.int (nI j) :: .ref (ad a) :: rest)) :=
  va_aldq S.1 S.2.1 hG.2.2.2.1 hG.1 a 3 (ov_get ha he) rfl (vp_in_nI hj hn) hdg (by rw [nI_clamp (Nat.lt_trans hj hn), hr]; exact kk)
theorem o_iast (S : CallFix p m c cc nL s args Ts own) (hG : ov_dy G N ad s0 s f H locs) {a n j : Nat} {g : Nat → Int32} {x : Int32} (ha : a < N) (he : f a = eI G n g) (hj : j < n) (hdg : decode cc pc = .ok (.iastore, 1)) (hn : n < 2 ^ 31 := by decide)
    (kk : ∀ (H1 : Heap) (locs1 : List Loc), ov_dy G N ad s0 s (va_up f a (eI G n (upd g j x))) H1 locs1 → W p l e R s m args below meth c H1 locs1 cells slots Q (F0 m (pc + 1) ls rest)) : W p l e R s m args below meth c H locs cells slots Q (F0 m pc ls (.int x :: .int (nI j) :: .ref (ad a) :: rest)) :=
  va_iast S.1 S.2.1 hG.2.2.2.1 hG.1 hG.2.1 hG.2.2.1 a 0 (ov_get ha he) rfl (vp_in_nI hj hn) hdg (fun H1 l1 h1 h2 h3 => by
    rw [nI_clamp (Nat.lt_trans hj hn)] at h1 h2
    exact kk H1 l1 (hG.up ha h1 h2 h3))
theorem o_zast (S : CallFix p m c cc nL s args Ts own) (hG : ov_dy G N ad s0 s f H locs) {a n j : Nat} {g : Nat → Int32} {x : Int32} (ha : a < N) (he : f a = eZ G n g) (hj : j < n) (hx : vp_nar .boolean x = x) (hdg : decode cc pc = .ok (.bastore, 1)) (hn : n < 2 ^ 31 := by decide)
    (kk : ∀ (H1 : Heap) (locs1 : List Loc), ov_dy G N ad s0 s (va_up f a (eZ G n (upd g j x))) H1 locs1 → W p l e R s m args below meth c H1 locs1 cells slots Q (F0 m (pc + 1) ls rest)) : W p l e R s m args below meth c H locs cells slots Q (F0 m pc ls (.int x :: .int (nI j) :: .ref (ad a) :: rest)) :=
  va_zast S.1 S.2.1 hG.2.2.2.1 hG.1 hG.2.1 hG.2.2.1 a 1 (ov_get ha he) rfl (vp_in_nI hj hn) hdg (fun H1 l1 h1 h2 h3 => by
    rw [nI_clamp (Nat.lt_trans hj hn), hx] at h1 h2
    exact kk H1 l1 (hG.up ha h1 h2 h3))
theorem o_last (S : CallFix p m c cc nL s args Ts own) (hG : ov_dy G N ad s0 s f H locs) {a n j : Nat} {g : Nat → Int64} {x : Int64} (ha : a < N) (he : f a = eJ G n g) (hj : j < n) (hdg : decode cc pc = .ok (.lastore, 1)) (hn : n < 2 ^ 31 := by decide)
    (kk : ∀ (H1 : Heap) (locs1 : List Loc), ov_dy G N ad s0 s (va_up f a (eJ G n (vp_updL g j x))) H1 locs1 → W p l e R s m args below meth c H1 locs1 cells slots Q (F0 m (pc + 1) ls rest)) : W p l e R s m args below meth c H locs cells slots Q (F0 m pc ls (.long x :: .int (nI j) :: .ref (ad a) :: rest)) :=
  va_last S.1 S.2.1 hG.2.2.2.1 hG.1 hG.2.1 hG.2.2.1 a 4 (ov_get ha he) rfl (vp_in_nI hj hn) hdg (fun H1 l1 h1 h2 h3 => by
    rw [nI_clamp (Nat.lt_trans hj hn)] at h1 h2
    exact kk H1 l1 (hG.up ha h1 h2 h3))
/-- the length of a row of the kind t0 -/
theorem o_alen (S : CallFix p m c cc nL s args Ts own) (hG : ov_dy G N ad s0 s f H locs) {a : Nat} (t0 : Nat) {cA : ClassId} {x : vp_A} {ty : FieldType} (ha : a < N) (he : f a = .inl (cA, x)) (ht : (ov_ty G)[t0]? = some (cA, ty)) (hdg : decode cc pc = .ok (.arraylength, 1))
    (kk : W p l e R s m args below meth c H locs cells slots Q (F0 m (pc + 1) ls (.int (nI x.1) :: rest))) : W p l e R s m args below meth c H locs cells slots Q (F0 m pc ls (.ref (ad a) :: rest)) :=
  va_alen S.1 S.2.1 hG.2.2.2.1 hG.1 a t0 (ov_get ha he) ht rfl hdg kk
theorem o_copyi (S : CallFix p m c cc nL s args Ts own) (hG : ov_dy G N ad s0 s f H locs) (hls : ls.size = nL) {index : Nat} (hlink : (Cond.methodLink own index arraycopyName).before args s = true) (hnat : (Cond.native arraycopyName).before args s = true) (hstat : (Cond.static arraycopyName).before args s = true) (hini : (Cond.initialized "java/lang/System").before args s = true)
    {a b n0 n1 sp dp n : Nat} {g h : Nat → Int32} (ha : a < N) (hb : b < N) (ea : f a = eI G n0 g) (eb : f b = eI G n1 h) (h4 : sp + n ≤ n0) (h5 : dp + n ≤ n1) (hn0 : n0 < 2 ^ 31) (hn1 : n1 < 2 ^ 31) (hframes : 1 ≤ R.frames) (hlocals : (rest.map fun v => v.category).sum + (nativeFrameWords "java/lang/System" "arraycopy" 5 + 11) ≤ R.locals) (hdg : decode cc pc = .ok (.invokestatic index, 3))
    (kk : ∀ (H1 : Heap) (locs1 : List Loc), ov_dy G N ad s0 s (va_up f b (eI G n1 (va_cpy g h sp dp n))) H1 locs1 → W p l e R s m args below meth c H1 locs1 cells slots Q (F0 m (pc + 3) ls rest)) : W p l e R s m args below meth c H locs cells slots Q (F0 m pc ls (.int (nI n) :: .int (nI dp) :: .ref (ad b) :: .int (nI sp) :: .ref (ad a) :: rest)) := by
  have c1 : (nI sp).toNatClampNeg = sp := nI_clamp (by omega)
  have c2 : (nI dp).toNatClampNeg = dp := nI_clamp (by omega)
  have c3 : (nI n).toNatClampNeg = n := nI_clamp (by omega)
  refine va_copyi S.1 S.2.1 (S.2.2.1.trans hls.symm) S.2.2.2.1 hlink hnat hstat hini hG.2.2.2.1 hG.1 hG.2.1 hG.2.2.1 a b 0 0 (ov_get ha ea) (ov_get hb eb) rfl rfl rfl (nI_pos (by omega)) (nI_pos (by omega)) (nI_pos (by omega)) (by rw [c1, c3]; exact h4) (by rw [c2, c3]; exact h5) (fun i _ => rfl) hframes hlocals hdg (fun H1 l1 h1 h2 h3 => ?_)
  rw [c1, c2, c3] at h1 h2
  exact kk H1 l1 (hG.up hb h1 h2 h3)
/-! numbers on the stack -/
theorem o_top {v v' : Int32} (h : v = v') (k : W p l e R s m args below meth c H locs cells slots Q (F0 m pc ls (.int v' :: rest))) : W p l e R s m args below meth c H locs cells slots Q (F0 m pc ls (.int v :: rest)) := h ▸ k
theorem o_add (S : CallFix p m c cc nL s args Ts own) {a b : Nat} (hdg : decode cc pc = .ok (.iadd, 1)) (k : W p l e R s m args below meth c H locs cells slots Q (F0 m (pc + 1) ls (.int (nI (a + b)) :: rest))) : W p l e R s m args below meth c H locs cells slots Q (F0 m pc ls (.int (nI b) :: .int (nI a) :: rest)) :=
  lv_iadd S.1 S.2.1 hdg (o_top (nI_add a b) k)
theorem o_sub (S : CallFix p m c cc nL s args Ts own) {a b : Nat} (hdg : decode cc pc = .ok (.isub, 1)) (h : b ≤ a) (k : W p l e R s m args below meth c H locs cells slots Q (F0 m (pc + 1) ls (.int (nI (a - b)) :: rest))) : W p l e R s m args below meth c H locs cells slots Q (F0 m pc ls (.int (nI b) :: .int (nI a) :: rest)) :=
  lv_isub S.1 S.2.1 hdg (o_top (pk_sub h) k)
theorem o_mul (S : CallFix p m c cc nL s args Ts own) {a b : Nat} (hdg : decode cc pc = .ok (.imul, 1)) (k : W p l e R s m args below meth c H locs cells slots Q (F0 m (pc + 1) ls (.int (nI (a * b)) :: rest))) : W p l e R s m args below meth c H locs cells slots Q (F0 m pc ls (.int (nI b) :: .int (nI a) :: rest)) :=
  lv_imul S.1 S.2.1 hdg (o_top (pk_mul a b) k)
/-! branches on counted numbers -/
theorem n_ge (S : CallFix p m c cc nL s args Ts own) {a b : Nat} {off : Int} {tgt : Nat} (hdg : decode cc pc = .ok (.if_icmp .ge off, 3)) (ht : (pc : Int) + off = (tgt : Int)) (ha : a < 2 ^ 31) (hb : b < 2 ^ 31)
    (kt : b ≤ a → W p l e R s m args below meth c H locs cells slots Q (F0 m tgt ls rest)) (kf : a < b → W p l e R s m args below meth c H locs cells slots Q (F0 m (pc + 3) ls rest)) : W p l e R s m args below meth c H locs cells slots Q (F0 m pc ls (.int (nI b) :: .int (nI a) :: rest)) :=
  lv_icmp_ge S.1 S.2.1 hdg ht (fun h => kt ((nI_leI hb ha).mp h)) (fun h => kf (Nat.lt_of_not_le fun q => h ((nI_leI hb ha).mpr q)))
theorem n_lt (S : CallFix p m c cc nL s args Ts own) {a b : Nat} {off : Int} {tgt : Nat} (hdg : decode cc pc = .ok (.if_icmp .lt off, 3)) (ht : (pc : Int) + off = (tgt : Int)) (ha : a < 2 ^ 31) (hb : b < 2 ^ 31)
    (kt : a < b → W p l e R s m args below meth c H locs cells slots Q (F0 m tgt ls rest)) (kf : b ≤ a → W p l e R s m args below meth c H locs cells slots Q (F0 m (pc + 3) ls rest)) : W p l e R s m args below meth c H locs cells slots Q (F0 m pc ls (.int (nI b) :: .int (nI a) :: rest)) :=
  lv_icmp_lt S.1 S.2.1 hdg ht (fun h => kt ((nI_ltI ha hb).mp h)) (fun h => kf (Nat.le_of_not_lt fun q => h ((nI_ltI ha hb).mpr q)))
theorem n_gt (S : CallFix p m c cc nL s args Ts own) {a b : Nat} {off : Int} {tgt : Nat} (hdg : decode cc pc = .ok (.if_icmp .gt off, 3)) (ht : (pc : Int) + off = (tgt : Int)) (ha : a < 2 ^ 31) (hb : b < 2 ^ 31)
    (kt : b < a → W p l e R s m args below meth c H locs cells slots Q (F0 m tgt ls rest)) (kf : a ≤ b → W p l e R s m args below meth c H locs cells slots Q (F0 m (pc + 3) ls rest)) : W p l e R s m args below meth c H locs cells slots Q (F0 m pc ls (.int (nI b) :: .int (nI a) :: rest)) :=
  lv_icmp_gt S.1 S.2.1 hdg ht (fun h => kt ((nI_ltI hb ha).mp h)) (fun h => kf (Nat.le_of_not_lt fun q => h ((nI_ltI hb ha).mpr q)))
theorem n_le (S : CallFix p m c cc nL s args Ts own) {a b : Nat} {off : Int} {tgt : Nat} (hdg : decode cc pc = .ok (.if_icmp .le off, 3)) (ht : (pc : Int) + off = (tgt : Int)) (ha : a < 2 ^ 31) (hb : b < 2 ^ 31)
    (kt : a ≤ b → W p l e R s m args below meth c H locs cells slots Q (F0 m tgt ls rest)) (kf : b < a → W p l e R s m args below meth c H locs cells slots Q (F0 m (pc + 3) ls rest)) : W p l e R s m args below meth c H locs cells slots Q (F0 m pc ls (.int (nI b) :: .int (nI a) :: rest)) :=
  lv_icmp_le S.1 S.2.1 hdg ht (fun h => kt ((nI_leI ha hb).mp h)) (fun h => kf (Nat.lt_of_not_le fun q => h ((nI_leI ha hb).mpr q)))
theorem n_eq (S : CallFix p m c cc nL s args Ts own) {a b : Nat} {off : Int} {tgt : Nat} (hdg : decode cc pc = .ok (.if_icmp .eq off, 3)) (ht : (pc : Int) + off = (tgt : Int)) (ha : a < 2 ^ 31) (hb : b < 2 ^ 31)
    (kt : a = b → W p l e R s m args below meth c H locs cells slots Q (F0 m tgt ls rest)) (kf : a ≠ b → W p l e R s m args below meth c H locs cells slots Q (F0 m (pc + 3) ls rest)) : W p l e R s m args below meth c H locs cells slots Q (F0 m pc ls (.int (nI b) :: .int (nI a) :: rest)) :=
  lv_icmp_eq S.1 S.2.1 hdg ht (fun h => kt ((nI_eq ha hb).mp h)) (fun h => kf (fun q => h ((nI_eq ha hb).mpr q)))
theorem n_ne (S : CallFix p m c cc nL s args Ts own) {a b : Nat} {off : Int} {tgt : Nat} (hdg : decode cc pc = .ok (.if_icmp .ne off, 3)) (ht : (pc : Int) + off = (tgt : Int)) (ha : a < 2 ^ 31) (hb : b < 2 ^ 31)
    (kt : a ≠ b → W p l e R s m args below meth c H locs cells slots Q (F0 m tgt ls rest)) (kf : a = b → W p l e R s m args below meth c H locs cells slots Q (F0 m (pc + 3) ls rest)) : W p l e R s m args below meth c H locs cells slots Q (F0 m pc ls (.int (nI b) :: .int (nI a) :: rest)) :=
  lv_icmp_ne S.1 S.2.1 hdg ht (fun h => kt (fun q => h ((nI_eq ha hb).mpr q))) (fun h => kf ((nI_eq ha hb).mp h))
theorem n_if_eq (S : CallFix p m c cc nL s args Ts own) {a : Nat} {off : Int} {tgt : Nat} (hdg : decode cc pc = .ok (.ifCond .eq off, 3)) (ht : (pc : Int) + off = (tgt : Int)) (ha : a < 2 ^ 31)
    (kt : a = 0 → W p l e R s m args below meth c H locs cells slots Q (F0 m tgt ls rest)) (kf : a ≠ 0 → W p l e R s m args below meth c H locs cells slots Q (F0 m (pc + 3) ls rest)) : W p l e R s m args below meth c H locs cells slots Q (F0 m pc ls (.int (nI a) :: rest)) :=
  lv_if_eq S.1 S.2.1 hdg ht (fun h => kt ((nI_eq ha (by decide)).mp (h.trans nI_0.symm))) (fun h => kf (fun q => h (by rw [q]; exact nI_0)))
theorem n_if_ne (S : CallFix p m c cc nL s args Ts own) {a : Nat} {off : Int} {tgt : Nat} (hdg : decode cc pc = .ok (.ifCond .ne off, 3)) (ht : (pc : Int) + off = (tgt : Int)) (ha : a < 2 ^ 31)
    (kt : a ≠ 0 → W p l e R s m args below meth c H locs cells slots Q (F0 m tgt ls rest)) (kf : a = 0 → W p l e R s m args below meth c H locs cells slots Q (F0 m (pc + 3) ls rest)) : W p l e R s m args below meth c H locs cells slots Q (F0 m pc ls (.int (nI a) :: rest)) :=
  lv_if_ne S.1 S.2.1 hdg ht (fun h => kt (fun q => h (by rw [q]; exact nI_0))) (fun h => kf ((nI_eq ha (by decide)).mp (h.trans nI_0.symm)))
/-- truth as an int -/
def bI (b : Bool) : Int32 := if b = true then nI 1 else nI 0
theorem b_if_eq (S : CallFix p m c cc nL s args Ts own) {b : Bool} {off : Int} {tgt : Nat} (hdg : decode cc pc = .ok (.ifCond .eq off, 3)) (ht : (pc : Int) + off = (tgt : Int))
    (kt : b = false → W p l e R s m args below meth c H locs cells slots Q (F0 m tgt ls rest)) (kf : b = true → W p l e R s m args below meth c H locs cells slots Q (F0 m (pc + 3) ls rest)) : W p l e R s m args below meth c H locs cells slots Q (F0 m pc ls (.int (bI b) :: rest)) :=
  lv_if_eq S.1 S.2.1 hdg ht (fun h => kt (by cases b <;> first | rfl | exact absurd h (by decide))) (fun h => kf (by cases b <;> first | rfl | exact absurd rfl h))
theorem b_if_ne (S : CallFix p m c cc nL s args Ts own) {b : Bool} {off : Int} {tgt : Nat} (hdg : decode cc pc = .ok (.ifCond .ne off, 3)) (ht : (pc : Int) + off = (tgt : Int))
    (kt : b = true → W p l e R s m args below meth c H locs cells slots Q (F0 m tgt ls rest)) (kf : b = false → W p l e R s m args below meth c H locs cells slots Q (F0 m (pc + 3) ls rest)) : W p l e R s m args below meth c H locs cells slots Q (F0 m pc ls (.int (bI b) :: rest)) :=
  lv_if_ne S.1 S.2.1 hdg ht (fun h => kt (by cases b <;> first | rfl | exact absurd rfl h)) (fun h => kf (by cases b <;> first | rfl | exact absurd h (by decide)))
theorem bI_nar (b : Bool) : vp_nar .boolean (bI b) = bI b := by cases b <;> rfl
theorem bI_narrow (b : Bool) : narrow .boolean (.int (bI b)) = .int (bI b) := by cases b <;> rfl
theorem bI_fits (b : Bool) : fits .boolean (.int (bI b)) = true := by cases b <;> rfl
end OVR
end
section
section OVC
/-! a body's ends, as what goes on behind it -/
abbrev rI (p : Program) (l : Launch) (e : Env) (R : Room) (s : State) (m : MethodId) (av : Array Value) (below : List Frame) (meth : Method) (c : Code) (Q : State → Prop) (cc : ByteArray) (ty : FieldType) (mc ms : Nat) (G : Gx) (N : Nat) (ad : Nat → Nat) (s0 : Nat) (post : Int32 → (Nat → va_E) → Prop) : Prop :=
  ∀ (v : Int32) (f' : Nat → va_E) (H : Heap) (locs : List Loc) (k n pc : Nat) (ls : Array Slot), ov_dy G N ad s0 s f' H locs → post v f' → narrow ty (.int v) = .int v → k ≤ mc → n ≤ ms → decode cc pc = .ok (.ireturn, 1) → W p l e R s m av below meth c H locs k n Q (F0 m pc ls [.int v])
abbrev rL (p : Program) (l : Launch) (e : Env) (R : Room) (s : State) (m : MethodId) (av : Array Value) (below : List Frame) (meth : Method) (c : Code) (Q : State → Prop) (cc : ByteArray) (mc ms : Nat) (G : Gx) (N : Nat) (ad : Nat → Nat) (s0 : Nat) (post : Int64 → (Nat → va_E) → Prop) : Prop :=
  ∀ (v : Int64) (f' : Nat → va_E) (H : Heap) (locs : List Loc) (k n pc : Nat) (ls : Array Slot), ov_dy G N ad s0 s f' H locs → post v f' → k ≤ mc → n ≤ ms → decode cc pc = .ok (.lreturn, 1) → W p l e R s m av below meth c H locs k n Q (F0 m pc ls [.long v])
abbrev rV (p : Program) (l : Launch) (e : Env) (R : Room) (s : State) (m : MethodId) (av : Array Value) (below : List Frame) (meth : Method) (c : Code) (Q : State → Prop) (cc : ByteArray) (mc ms : Nat) (G : Gx) (N : Nat) (ad : Nat → Nat) (s0 : Nat) (post : (Nat → va_E) → Prop) : Prop :=
  ∀ (f' : Nat → va_E) (H : Heap) (locs : List Loc) (k n pc : Nat) (ls : Array Slot), ov_dy G N ad s0 s f' H locs → post f' → k ≤ mc → n ≤ ms → decode cc pc = .ok (.return_, 1) → W p l e R s m av below meth c H locs k n Q (F0 m pc ls [])
abbrev rR (p : Program) (l : Launch) (e : Env) (R : Room) (s : State) (m : MethodId) (av : Array Value) (below : List Frame) (meth : Method) (c : Code) (Q : State → Prop) (cc : ByteArray) (mc ms : Nat) (G : Gx) (N : Nat) (ad : Nat → Nat) (s0 : Nat) (post : Nat → (Nat → va_E) → Prop) : Prop :=
  ∀ (r : Nat) (f' : Nat → va_E) (H : Heap) (locs : List Loc) (k n pc : Nat) (ls : Array Slot), ov_dy G N ad s0 s f' H locs → post r f' → k ≤ mc → n ≤ ms → decode cc pc = .ok (.areturn, 1) → W p l e R s m av below meth c H locs k n Q (F0 m pc ls [.ref (ad r)])
/-- a throw that comes out of a callee goes on -/
abbrev rX (p : Program) (l : Launch) (e : Env) (R : Room) (s : State) (m : MethodId) (av : Array Value) (below : List Frame) (meth : Method) (c : Code) (Q : State → Prop) (mc ms : Nat) (G : Gx) (N : Nat) (ad : Nat → Nat) (s0 : Nat) (f : Nat → va_E) (PX : String → Prop) : Prop :=
  ∀ (E : String) (ce : Cell) (q : Addr) (H : Heap) (locs : List Loc) (k n pc : Nat) (ls : Array Slot) (rest : List Value), ov_dy G N ad s0 s f H locs → PX E → H[q]? = some ce → ce.vm = .none → s.vm.findClass E = some ce.cls → k ≤ mc → n ≤ ms → vx_W p l e R s m av below meth c H locs k n Q (F0 m pc ls rest) q
/-- 'throw new E()' -/
abbrev rT (p : Program) (l : Launch) (e : Env) (R : Room) (s : State) (m : MethodId) (av : Array Value) (below : List Frame) (meth : Method) (c : Code) (Q : State → Prop) (cc : ByteArray) (own : String) (mc ms : Nat) (G : Gx) (N : Nat) (ad : Nat → Nat) (s0 : Nat) (f : Nat → va_E) (PX : String → Prop) : Prop :=
  ∀ (E : String) (names : List String) (ik ic : Nat) (H : Heap) (locs : List Loc) (k n pc : Nat) (ls : Array Slot) (rest : List Value), ov_dy G N ad s0 s f H locs → PX E → Bundle.fit E = true → (∀ x ∈ names, Bundle.fit x = true) →
    (Cond.classLink own ik E).before av s = true → (Cond.initialized E).before av s = true → (∀ w ∈ vx_at0 own ic E names, w.before av s = true) → (∀ w ∈ Cond.classLink own ik E :: Cond.initialized E :: vx_at0 own ic E names, vx_ot w = true) → ls.size = c.maxLocals →
    decode cc pc = .ok (.new ik, 3) → decode cc (pc + 3) = .ok (.dup, 1) → decode cc (pc + 4) = .ok (.invokespecial ic, 3) → decode cc (pc + 7) = .ok (.athrow, 1) →
    names.length + 3 < R.frames → (rest.map fun v => v.category).sum + (13 * (names.length + 1) + 42) ≤ R.locals → k + 1 ≤ R.cells → n + 6 ≤ R.slots → k + 1 ≤ mc → n + 6 ≤ ms → W p l e R s m av below meth c H locs k n Q (F0 m pc ls rest)
section Bodies
variable {l : Launch} {y : MethodName} {ws ws' : List Cond} {fr lo mc ms : Nat} {As : List Value} {G : Gx} {N : Nat} {ad : Nat → Nat} {s0 : Nat} {f : Nat → va_E} {cc : ByteArray} {maxL : Nat}
theorem ov_met {Qc : Array Value → State → Outcome → State → Prop} {ret : Option FieldType}
    (hy : plainName y.cls = true) (hw : ws = Cond.code y cc maxL ret :: ws') (hA : (lg_sl As).length ≤ maxL)
    (body : ∀ (p : Program) (e : Env) (s : State) (m : MethodId) (below : List Frame) (meth : Method) (c : Code), CallFix p m c cc maxL s As.toArray ws y.cls → meth.sig.returnType = ret → meth.locks = false → meth.name = y.name → ov_dy G N ad s0 s f s.heap [] → ∀ ls : Array Slot, lv_has ls maxL (lv_args 0 As) →
      W p l e (ov_rm fr lo mc ms) s m As.toArray below meth c s.heap [] 0 0 (MQ below Qc As.toArray s mc ms (ov_A s0)) (F0 m 0 ls [])) :
    Met l y ws (ov_rm fr lo mc ms) (va_Pc As (ov_wo G N ad s0 f)) Qc mc ms (ov_A s0) := by
  refine Met.ofW (cc := cc) (maxL := maxL) (ret := ret) hy hw ?_
  intro p e s m args below meth c s₁ B hml hv
  obtain ⟨rfl, hwo⟩ := hv
  have S : CallFix p m c cc maxL s As.toArray ws y.cls := ⟨B.exec, B.bytes, hml, findClass_of_methodNamed B.named, atoms_spec (ws := ws) B.pre⟩
  have hl := lv_entry As (n := maxL) hA
  have k := body p e s m below meth c S B.returns B.notSynchronized (name_of_methodNamed B.named B.method).1 (ov_dy.of hwo) _ hl
  rw [lg_entry_eq]
  exact k
theorem ov_metX {Qc : Array Value → State → Outcome → State → Prop} {XC : String → State → State → Prop} {ret : Option FieldType}
    (hy : plainName y.cls = true) (hw : ws = Cond.code y cc maxL ret :: ws') (hA : (lg_sl As).length ≤ maxL)
    (body : ∀ (p : Program) (e : Env) (s : State) (m : MethodId) (below : List Frame) (meth : Method) (c : Code), CallFix p m c cc maxL s As.toArray ws y.cls → meth.sig.returnType = ret → meth.locks = false → (∀ x ∈ c.exceptionTable.toList, False) → ov_dy G N ad s0 s f s.heap [] → ∀ ls : Array Slot, lv_has ls maxL (lv_args 0 As) →
      W p l e (ov_rm fr lo mc ms) s m As.toArray below meth c s.heap [] 0 0 (vx_MQ below Qc XC As.toArray s mc ms (ov_A s0)) (F0 m 0 ls [])) :
    vx_Met l y ws (ov_rm fr lo mc ms) (va_Pc As (ov_wo G N ad s0 f)) Qc XC mc ms (ov_A s0) := by
  refine vx_ofW (cc := cc) (maxL := maxL) (ret := ret) hy hw ?_
  intro p e s m args below meth c s₁ B hml hx hv
  obtain ⟨rfl, hwo⟩ := hv
  have S : CallFix p m c cc maxL s As.toArray ws y.cls := ⟨B.exec, B.bytes, hml, findClass_of_methodNamed B.named, atoms_spec (ws := ws) B.pre⟩
  have hl := lv_entry As (n := maxL) hA
  have k := body p e s m below meth c S B.returns B.notSynchronized hx (ov_dy.of hwo) _ hl
  rw [lg_entry_eq]
  exact k
theorem ov_mI {post : Int32 → (Nat → va_E) → Prop} {ty : FieldType} (hy : plainName y.cls = true) (hw : ws = Cond.code y cc maxL (some ty) :: ws') (hA : (lg_sl As).length ≤ maxL)
    (body : ∀ (p : Program) (e : Env) (s : State) (m : MethodId) (below : List Frame) (meth : Method) (c : Code) (av : Array Value) (Q : State → Prop), CallFix p m c cc maxL s av ws y.cls → rI p l e (ov_rm fr lo mc ms) s m av below meth c Q cc ty mc ms G N ad s0 post → ov_dy G N ad s0 s f s.heap [] → ∀ ls : Array Slot, lv_has ls maxL (lv_args 0 As) →
      W p l e (ov_rm fr lo mc ms) s m av below meth c s.heap [] 0 0 Q (F0 m 0 ls [])) : mI l y ws fr lo mc ms As G N ad s0 f post :=
  ov_met hy hw hA fun p e s m below meth c S hr hlk _ hG ls hl => body p e s m below meth c _ _ S (fun v f' H locs k n pc ls hG hp hn hc hs d => W.widen hc hs (W.zret S.1 S.2.1 hr hn (fun t ht hW => ⟨⟨v, f', rfl, hp, hG.wo ht hW.alike⟩, hG.2.2.1.F ht⟩) hG.2.2.1.2.2 d hlk)) hG ls hl
theorem ov_mL {post : Int64 → (Nat → va_E) → Prop} (hy : plainName y.cls = true) (hw : ws = Cond.code y cc maxL (some .long) :: ws') (hA : (lg_sl As).length ≤ maxL)
    (body : ∀ (p : Program) (e : Env) (s : State) (m : MethodId) (below : List Frame) (meth : Method) (c : Code) (av : Array Value) (Q : State → Prop), CallFix p m c cc maxL s av ws y.cls → rL p l e (ov_rm fr lo mc ms) s m av below meth c Q cc mc ms G N ad s0 post → ov_dy G N ad s0 s f s.heap [] → ∀ ls : Array Slot, lv_has ls maxL (lv_args 0 As) →
      W p l e (ov_rm fr lo mc ms) s m av below meth c s.heap [] 0 0 Q (F0 m 0 ls [])) : mL l y ws fr lo mc ms As G N ad s0 f post :=
  ov_met hy hw hA fun p e s m below meth c S hr hlk _ hG ls hl => body p e s m below meth c _ _ S (fun v f' H locs k n pc ls hG hp hc hs d => W.widen hc hs (W.lret S.1 S.2.1 hr (fun t ht hW => ⟨⟨v, f', rfl, hp, hG.wo ht hW.alike⟩, hG.2.2.1.F ht⟩) hG.2.2.1.2.2 d hlk)) hG ls hl
theorem ov_mV {post : (Nat → va_E) → Prop} (hy : plainName y.cls = true) (hw : ws = Cond.code y cc maxL none :: ws') (hA : (lg_sl As).length ≤ maxL)
    (body : ∀ (p : Program) (e : Env) (s : State) (m : MethodId) (below : List Frame) (meth : Method) (c : Code) (av : Array Value) (Q : State → Prop), CallFix p m c cc maxL s av ws y.cls → rV p l e (ov_rm fr lo mc ms) s m av below meth c Q cc mc ms G N ad s0 post → ov_dy G N ad s0 s f s.heap [] → ∀ ls : Array Slot, lv_has ls maxL (lv_args 0 As) →
      W p l e (ov_rm fr lo mc ms) s m av below meth c s.heap [] 0 0 Q (F0 m 0 ls [])) : mV l y ws fr lo mc ms As G N ad s0 f post :=
  ov_met hy hw hA fun p e s m below meth c S hr hlk _ hG ls hl => body p e s m below meth c _ _ S (fun f' H locs k n pc ls hG hp hc hs d => W.widen hc hs (W.vret S.1 S.2.1 hr (fun t ht hW => ⟨⟨f', rfl, hp, hG.wo ht hW.alike⟩, hG.2.2.1.F ht⟩) hG.2.2.1.2.2 d hlk)) hG ls hl
theorem ov_dy.grown {s : State} {H H1 : Heap} {locs : List Loc} (h : ov_dy G N ad s0 s f H locs) (h1 : H.size ≤ H1.size) (h2 : ∀ q : Nat, q < H.size → H1[q]? = H[q]?) : ov_dy G N ad s0 s f H1 locs := by
  obtain ⟨hP, hD, hS, hK, hZ, hz⟩ := h
  exact ⟨hP.kept (fun k q hq => h2 _ (hP k q hq).lt), hD, ⟨Nat.le_trans hS.1 h1, fun q a b => (h2 q (Nat.lt_of_lt_of_le a hS.1)).trans (hS.2.1 q a b), hS.2.2⟩, hK, hZ, hz⟩
theorem ov_xX {p : Program} {e : Env} {s : State} {m : MethodId} {below : List Frame} {meth : Method} {c : Code} {av : Array Value} {R : Room} {Qc : Array Value → State → Outcome → State → Prop} {PX : String → Prop} (hlk : meth.locks = false) (hx : ∀ x ∈ c.exceptionTable.toList, False) :
    rX p l e R s m av below meth c (vx_MQ below Qc (ov_XC G N ad s0 f PX) av s mc ms (ov_A s0)) mc ms G N ad s0 f PX :=
  fun E ce q H locs k n pc ls rest hG hE h1 h2 h3 h4 h5 => vx_out (fun x h => (hx x h).elim) hlk h1 h2 h3 (fun t ht hv => ⟨(), trivial, ⟨hE, hG.wo ht hv⟩, hG.2.2.1.F ht⟩) hG.2.2.1.2.2 h4 h5
theorem ov_xT {p : Program} {e : Env} {s : State} {m : MethodId} {below : List Frame} {meth : Method} {c : Code} {av : Array Value} {R : Room} {Qc : Array Value → State → Outcome → State → Prop} {PX : String → Prop} {own : String} {Ts : List Cond} (hst : l.stackTraces = false) (S : CallFix p m c cc maxL s av Ts own) (hlk : meth.locks = false) (hx : ∀ x ∈ c.exceptionTable.toList, False) :
    rT p l e R s m av below meth c (vx_MQ below Qc (ov_XC G N ad s0 f PX) av s mc ms (ov_A s0)) cc own mc ms G N ad s0 f PX :=
  fun E names ik ic H locs k n pc ls rest hG hE hf1 hf2 hk hi hat hgd hls d0 d3 d4 d7 r1 r2 r3 r4 r5 r6 => vx_throw0 S.1 S.2.1 hst S.2.2.2.1 hf1 hf2 hk hi hat hgd hG.2.2.2.2.1.1 hG.2.2.2.2.1.2 hG.2.2.1 hls d0 d3 d4 d7 (fun x h => (hx x h).elim) r1 r2 r3 r4 hlk
    (fun t hv h1 h2 => ⟨(), trivial, ⟨hE, (hG.grown h1 h2).wo rfl hv⟩, (hG.grown h1 h2).2.2.1.F rfl⟩) hG.2.2.1.2.2 r5 r6
theorem ov_xI {post : Int32 → (Nat → va_E) → Prop} {PX : String → Prop} {ty : FieldType} (hst : l.stackTraces = false) (hy : plainName y.cls = true) (hw : ws = Cond.code y cc maxL (some ty) :: ws') (hA : (lg_sl As).length ≤ maxL)
    (body : ∀ (p : Program) (e : Env) (s : State) (m : MethodId) (below : List Frame) (meth : Method) (c : Code) (av : Array Value) (Q : State → Prop), CallFix p m c cc maxL s av ws y.cls → rI p l e (ov_rm fr lo mc ms) s m av below meth c Q cc ty mc ms G N ad s0 post → rX p l e (ov_rm fr lo mc ms) s m av below meth c Q mc ms G N ad s0 f PX → rT p l e (ov_rm fr lo mc ms) s m av below meth c Q cc y.cls mc ms G N ad s0 f PX → ov_dy G N ad s0 s f s.heap [] → ∀ ls : Array Slot, lv_has ls maxL (lv_args 0 As) →
      W p l e (ov_rm fr lo mc ms) s m av below meth c s.heap [] 0 0 Q (F0 m 0 ls [])) : xI l y ws fr lo mc ms As G N ad s0 f PX post :=
  ov_metX hy hw hA fun p e s m below meth c S hr hlk hx hG ls hl => body p e s m below meth c _ _ S (fun v f' H locs k n pc ls hG hp hn hc hs d => vx_ret (W.widen hc hs (W.zret S.1 S.2.1 hr hn (fun t ht hW => ⟨⟨v, f', rfl, hp, hG.wo ht hW.alike⟩, hG.2.2.1.F ht⟩) hG.2.2.1.2.2 d hlk))) (ov_xX hlk hx) (ov_xT hst S hlk hx) hG ls hl
theorem ov_xL {post : Int64 → (Nat → va_E) → Prop} {PX : String → Prop} (hst : l.stackTraces = false) (hy : plainName y.cls = true) (hw : ws = Cond.code y cc maxL (some .long) :: ws') (hA : (lg_sl As).length ≤ maxL)
    (body : ∀ (p : Program) (e : Env) (s : State) (m : MethodId) (below : List Frame) (meth : Method) (c : Code) (av : Array Value) (Q : State → Prop), CallFix p m c cc maxL s av ws y.cls → rL p l e (ov_rm fr lo mc ms) s m av below meth c Q cc mc ms G N ad s0 post → rX p l e (ov_rm fr lo mc ms) s m av below meth c Q mc ms G N ad s0 f PX → rT p l e (ov_rm fr lo mc ms) s m av below meth c Q cc y.cls mc ms G N ad s0 f PX → ov_dy G N ad s0 s f s.heap [] → ∀ ls : Array Slot, lv_has ls maxL (lv_args 0 As) →
      W p l e (ov_rm fr lo mc ms) s m av below meth c s.heap [] 0 0 Q (F0 m 0 ls [])) : xL l y ws fr lo mc ms As G N ad s0 f PX post :=
  ov_metX hy hw hA fun p e s m below meth c S hr hlk hx hG ls hl => body p e s m below meth c _ _ S (fun v f' H locs k n pc ls hG hp hc hs d => vx_ret (W.widen hc hs (W.lret S.1 S.2.1 hr (fun t ht hW => ⟨⟨v, f', rfl, hp, hG.wo ht hW.alike⟩, hG.2.2.1.F ht⟩) hG.2.2.1.2.2 d hlk))) (ov_xX hlk hx) (ov_xT hst S hlk hx) hG ls hl
theorem ov_xR {post : Nat → (Nat → va_E) → Prop} {PX : String → Prop} {C : String} (hst : l.stackTraces = false) (hy : plainName y.cls = true) (hw : ws = Cond.code y cc maxL (some (.object C)) :: ws') (hA : (lg_sl As).length ≤ maxL)
    (body : ∀ (p : Program) (e : Env) (s : State) (m : MethodId) (below : List Frame) (meth : Method) (c : Code) (av : Array Value) (Q : State → Prop), CallFix p m c cc maxL s av ws y.cls → rR p l e (ov_rm fr lo mc ms) s m av below meth c Q cc mc ms G N ad s0 post → rX p l e (ov_rm fr lo mc ms) s m av below meth c Q mc ms G N ad s0 f PX → rT p l e (ov_rm fr lo mc ms) s m av below meth c Q cc y.cls mc ms G N ad s0 f PX → ov_dy G N ad s0 s f s.heap [] → ∀ ls : Array Slot, lv_has ls maxL (lv_args 0 As) →
      W p l e (ov_rm fr lo mc ms) s m av below meth c s.heap [] 0 0 Q (F0 m 0 ls [])) : xR l y ws fr lo mc ms As G N ad s0 f PX post :=
  ov_metX hy hw hA fun p e s m below meth c S hr hlk hx hG ls hl => body p e s m below meth c _ _ S (fun r f' H locs k n pc ls hG hp hc hs d => vx_ret (W.widen hc hs (W.aret S.1 S.2.1 hr (Or.inl ⟨_, rfl⟩) (Or.inr ⟨_, rfl⟩) (fun t ht hW => ⟨⟨r, f', rfl, hp, hG.wo ht hW.alike⟩, hG.2.2.1.F ht⟩) hG.2.2.1.2.2 d hlk))) (ov_xX hlk hx) (ov_xT hst S hlk hx) hG ls hl
end Bodies
section Calls
variable {p : Program} {l : Launch} {e : Env} {R : Room} {s : State} {m : MethodId} {args : Array Value} {below : List Frame} {meth : Method} {c : Code} {H : Heap} {locs : List Loc} {cells slots : Nat} {Q : State → Prop}
variable {cc : ByteArray} {pc : Nat} {ls : Array Slot} {st rest : List Value} {Ts : List Cond} {own : String} {nL : Nat}
variable {G : Gx} {N : Nat} {ad : Nat → Nat} {s0 : Nat} {f : Nat → va_E}
variable {y : MethodName} {bytes : ByteArray} {maxL mc ms fr lo n index a ci nn : Nat} {ret : Option FieldType} {ws : List Cond} {C : String} {T : u_T} {fs : List Value} {As : List Value}
theorem ov_preV (hG : ov_dy G N ad s0 s f H locs) (ha : a < N) (he : f a = .inr (ci, fs)) (hc : vwCl[ci]? = some (C, T, nn)) : PreV s H C (ad a) (va_Pc (.ref (ad a) :: As) (ov_wo G N ad s0 f)) As :=
  ⟨ov_blind, va_recv hG.2.2.2.1 hG.1 hc (ov_get ha he), fun U hU hW => ⟨rfl, hG.wo hU hW.alike⟩⟩
theorem ov_preS (hG : ov_dy G N ad s0 s f H locs) : PreS s H (va_Pc As (ov_wo G N ad s0 f)) As := ⟨ov_blind, fun U hU hW => ⟨rfl, hG.wo hU hW.alike⟩⟩
theorem o_cVi {post : Int32 → (Nat → va_E) → Prop} (S : CallFix p m c cc nL s args Ts own) (hM : mI l y ws fr lo mc ms (.ref (ad a) :: As) G N ad s0 f post) (cw : CallW R s args own C index y bytes maxL ret ws (ov_rm fr lo mc ms) mc ms n) (hG : ov_dy G N ad s0 s f H locs) (ha : a < N) (he : f a = .inr (ci, fs)) (hc : vwCl[ci]? = some (C, T, nn))
    (hn : As.length = n) (hls : ls.size = nL) (hst : st = As.reverse ++ .ref (ad a) :: rest) (hro : (rest.map fun v => v.category).sum ≤ 8) (hdg : decode cc pc = .ok (.invokevirtual index, 3)) (hf : cells + mc ≤ R.cells ∧ slots + ms ≤ R.slots)
    (kk : ∀ (r : Int32) (f' : Nat → va_E) (H1 : Heap) (locs1 : List Loc), post r f' → ov_dy G N ad s0 s f' H1 locs1 → W p l e R s m args below meth c H1 locs1 (cells + mc) (slots + ms) Q (F0 m (pc + 3) ls (.int r :: rest))) : W p l e R s m args below meth c H locs cells slots Q (F0 m pc ls st) :=
  va_calli (va_runV (As := As) (rest := rest) S hM cw (ov_preV hG ha he hc) rfl hn hls hst (lv_room hro) hdg hf) hG.2.2.1 (fun _ _ h => h) (fun _ h => h) (fun r u t H1 l1 ht hv hp hB _ _ hS => kk r u H1 l1 hp (hG.next hB ht hS))
theorem o_cVl {post : Int64 → (Nat → va_E) → Prop} (S : CallFix p m c cc nL s args Ts own) (hM : mL l y ws fr lo mc ms (.ref (ad a) :: As) G N ad s0 f post) (cw : CallW R s args own C index y bytes maxL ret ws (ov_rm fr lo mc ms) mc ms n) (hG : ov_dy G N ad s0 s f H locs) (ha : a < N) (he : f a = .inr (ci, fs)) (hc : vwCl[ci]? = some (C, T, nn))
    (hn : As.length = n) (hls : ls.size = nL) (hst : st = As.reverse ++ .ref (ad a) :: rest) (hro : (rest.map fun v => v.category).sum ≤ 8) (hdg : decode cc pc = .ok (.invokevirtual index, 3)) (hf : cells + mc ≤ R.cells ∧ slots + ms ≤ R.slots)
    (kk : ∀ (r : Int64) (f' : Nat → va_E) (H1 : Heap) (locs1 : List Loc), post r f' → ov_dy G N ad s0 s f' H1 locs1 → W p l e R s m args below meth c H1 locs1 (cells + mc) (slots + ms) Q (F0 m (pc + 3) ls (.long r :: rest))) : W p l e R s m args below meth c H locs cells slots Q (F0 m pc ls st) :=
  va_calll (va_runV (As := As) (rest := rest) S hM cw (ov_preV hG ha he hc) rfl hn hls hst (lv_room hro) hdg hf) hG.2.2.1 (fun _ _ h => h) (fun _ h => h) (fun r u t H1 l1 ht hv hp hB _ _ hS => kk r u H1 l1 hp (hG.next hB ht hS))
theorem o_cVv {post : (Nat → va_E) → Prop} (S : CallFix p m c cc nL s args Ts own) (hM : mV l y ws fr lo mc ms (.ref (ad a) :: As) G N ad s0 f post) (cw : CallW R s args own C index y bytes maxL ret ws (ov_rm fr lo mc ms) mc ms n) (hG : ov_dy G N ad s0 s f H locs) (ha : a < N) (he : f a = .inr (ci, fs)) (hc : vwCl[ci]? = some (C, T, nn))
    (hn : As.length = n) (hls : ls.size = nL) (hst : st = As.reverse ++ .ref (ad a) :: rest) (hro : (rest.map fun v => v.category).sum ≤ 8) (hdg : decode cc pc = .ok (.invokevirtual index, 3)) (hf : cells + mc ≤ R.cells ∧ slots + ms ≤ R.slots)
    (kk : ∀ (f' : Nat → va_E) (H1 : Heap) (locs1 : List Loc), post f' → ov_dy G N ad s0 s f' H1 locs1 → W p l e R s m args below meth c H1 locs1 (cells + mc) (slots + ms) Q (F0 m (pc + 3) ls rest)) : W p l e R s m args below meth c H locs cells slots Q (F0 m pc ls st) :=
  va_callv (va_runV (As := As) (rest := rest) S hM cw (ov_preV hG ha he hc) rfl hn hls hst (lv_room hro) hdg hf) hG.2.2.1 (fun _ _ h => h) (fun _ h => h) (fun u t H1 l1 ht hv hp hB _ _ hS => kk u H1 l1 hp (hG.next hB ht hS))
theorem o_cSi {post : Int32 → (Nat → va_E) → Prop} (S : CallFix p m c cc nL s args Ts own) (hM : mI l y ws fr lo mc ms As G N ad s0 f post) (cw : CallB R s args own index y bytes maxL ret ws (ov_rm fr lo mc ms) mc ms n ∧ (Cond.static y).before args s = true) (hG : ov_dy G N ad s0 s f H locs)
    (hn : As.length = n) (hls : ls.size = nL) (hst : st = As.reverse ++ rest) (hro : (rest.map fun v => v.category).sum ≤ 8) (hdg : decode cc pc = .ok (.invokestatic index, 3)) (hf : cells + mc ≤ R.cells ∧ slots + ms ≤ R.slots)
    (kk : ∀ (r : Int32) (f' : Nat → va_E) (H1 : Heap) (locs1 : List Loc), post r f' → ov_dy G N ad s0 s f' H1 locs1 → W p l e R s m args below meth c H1 locs1 (cells + mc) (slots + ms) Q (F0 m (pc + 3) ls (.int r :: rest))) : W p l e R s m args below meth c H locs cells slots Q (F0 m pc ls st) :=
  va_calli (va_runS (As := As) (rest := rest) S hM cw (ov_preS hG) rfl hn hls hst (lv_room hro) hdg hf) hG.2.2.1 (fun _ _ h => h) (fun _ h => h) (fun r u t H1 l1 ht hv hp hB _ _ hS => kk r u H1 l1 hp (hG.next hB ht hS))
theorem o_xVi {post : Int32 → (Nat → va_E) → Prop} {PX : String → Prop} (S : CallFix p m c cc nL s args Ts own) (hM : xI l y ws fr lo mc ms (.ref (ad a) :: As) G N ad s0 f PX post) (cw : CallW R s args own C index y bytes maxL ret ws (ov_rm fr lo mc ms) mc ms n) (hG : ov_dy G N ad s0 s f H locs) (ha : a < N) (he : f a = .inr (ci, fs)) (hc : vwCl[ci]? = some (C, T, nn))
    (hn : As.length = n) (hls : ls.size = nL) (hst : st = As.reverse ++ .ref (ad a) :: rest) (hro : (rest.map fun v => v.category).sum ≤ 8) (hdg : decode cc pc = .ok (.invokevirtual index, 3)) (hf : cells + mc ≤ R.cells ∧ slots + ms ≤ R.slots)
    (kx : ∀ (E : String) (ce : Cell) (q9 : Addr) (H1 : Heap) (locs1 : List Loc), PX E → ov_dy G N ad s0 s f H1 locs1 → H1[q9]? = some ce → ce.vm = .none → s.vm.findClass E = some ce.cls → vx_W p l e R s m args below meth c H1 locs1 (cells + mc) (slots + ms) Q (F0 m pc ls rest) q9)
    (kk : ∀ (r : Int32) (f' : Nat → va_E) (H1 : Heap) (locs1 : List Loc), post r f' → ov_dy G N ad s0 s f' H1 locs1 → W p l e R s m args below meth c H1 locs1 (cells + mc) (slots + ms) Q (F0 m (pc + 3) ls (.int r :: rest))) : W p l e R s m args below meth c H locs cells slots Q (F0 m pc ls st) :=
  vx_calli (vx_runV (As := As) (rest := rest) S hM cw (ov_preV hG ha he hc) rfl hn hls hst (lv_room hro) hdg hf) hG.2.2.1 (fun _ _ h => h) (fun _ h => h) (fun _ _ h => h) (fun E ce q9 u t H1 l1 ht hv hp hB _ _ hS h1 h2 h3 => kx E ce q9 H1 l1 hB.1 (hG.next hB.2 ht hS) h1 h2 h3) (fun r u t H1 l1 ht hv hp hB _ _ hS => kk r u H1 l1 hp (hG.next hB ht hS))
theorem o_xVl {post : Int64 → (Nat → va_E) → Prop} {PX : String → Prop} (S : CallFix p m c cc nL s args Ts own) (hM : xL l y ws fr lo mc ms (.ref (ad a) :: As) G N ad s0 f PX post) (cw : CallW R s args own C index y bytes maxL ret ws (ov_rm fr lo mc ms) mc ms n) (hG : ov_dy G N ad s0 s f H locs) (ha : a < N) (he : f a = .inr (ci, fs)) (hc : vwCl[ci]? = some (C, T, nn))
    (hn : As.length = n) (hls : ls.size = nL) (hst : st = As.reverse ++ .ref (ad a) :: rest) (hro : (rest.map fun v => v.category).sum ≤ 8) (hdg : decode cc pc = .ok (.invokevirtual index, 3)) (hf : cells + mc ≤ R.cells ∧ slots + ms ≤ R.slots)
    (kx : ∀ (E : String) (ce : Cell) (q9 : Addr) (H1 : Heap) (locs1 : List Loc), PX E → ov_dy G N ad s0 s f H1 locs1 → H1[q9]? = some ce → ce.vm = .none → s.vm.findClass E = some ce.cls → vx_W p l e R s m args below meth c H1 locs1 (cells + mc) (slots + ms) Q (F0 m pc ls rest) q9)
    (kk : ∀ (r : Int64) (f' : Nat → va_E) (H1 : Heap) (locs1 : List Loc), post r f' → ov_dy G N ad s0 s f' H1 locs1 → W p l e R s m args below meth c H1 locs1 (cells + mc) (slots + ms) Q (F0 m (pc + 3) ls (.long r :: rest))) : W p l e R s m args below meth c H locs cells slots Q (F0 m pc ls st) :=
  vx_calll (vx_runV (As := As) (rest := rest) S hM cw (ov_preV hG ha he hc) rfl hn hls hst (lv_room hro) hdg hf) hG.2.2.1 (fun _ _ h => h) (fun _ h => h) (fun _ _ h => h) (fun E ce q9 u t H1 l1 ht hv hp hB _ _ hS h1 h2 h3 => kx E ce q9 H1 l1 hB.1 (hG.next hB.2 ht hS) h1 h2 h3) (fun r u t H1 l1 ht hv hp hB _ _ hS => kk r u H1 l1 hp (hG.next hB ht hS))
theorem o_xSi {post : Int32 → (Nat → va_E) → Prop} {PX : String → Prop} (S : CallFix p m c cc nL s args Ts own) (hM : xI l y ws fr lo mc ms As G N ad s0 f PX post) (cw : CallB R s args own index y bytes maxL ret ws (ov_rm fr lo mc ms) mc ms n ∧ (Cond.static y).before args s = true) (hG : ov_dy G N ad s0 s f H locs)
    (hn : As.length = n) (hls : ls.size = nL) (hst : st = As.reverse ++ rest) (hro : (rest.map fun v => v.category).sum ≤ 8) (hdg : decode cc pc = .ok (.invokestatic index, 3)) (hf : cells + mc ≤ R.cells ∧ slots + ms ≤ R.slots)
    (kx : ∀ (E : String) (ce : Cell) (q9 : Addr) (H1 : Heap) (locs1 : List Loc), PX E → ov_dy G N ad s0 s f H1 locs1 → H1[q9]? = some ce → ce.vm = .none → s.vm.findClass E = some ce.cls → vx_W p l e R s m args below meth c H1 locs1 (cells + mc) (slots + ms) Q (F0 m pc ls rest) q9)
    (kk : ∀ (r : Int32) (f' : Nat → va_E) (H1 : Heap) (locs1 : List Loc), post r f' → ov_dy G N ad s0 s f' H1 locs1 → W p l e R s m args below meth c H1 locs1 (cells + mc) (slots + ms) Q (F0 m (pc + 3) ls (.int r :: rest))) : W p l e R s m args below meth c H locs cells slots Q (F0 m pc ls st) :=
  vx_calli (vx_runS (As := As) (rest := rest) S hM cw (ov_preS hG) rfl hn hls hst (lv_room hro) hdg hf) hG.2.2.1 (fun _ _ h => h) (fun _ h => h) (fun _ _ h => h) (fun E ce q9 u t H1 l1 ht hv hp hB _ _ hS h1 h2 h3 => kx E ce q9 H1 l1 hB.1 (hG.next hB.2 ht hS) h1 h2 h3) (fun r u t H1 l1 ht hv hp hB _ _ hS => kk r u H1 l1 hp (hG.next hB ht hS))
theorem o_xVr {post : Nat → (Nat → va_E) → Prop} {PX : String → Prop} (S : CallFix p m c cc nL s args Ts own) (hM : xR l y ws fr lo mc ms (.ref (ad a) :: As) G N ad s0 f PX post) (cw : CallW R s args own C index y bytes maxL ret ws (ov_rm fr lo mc ms) mc ms n) (hG : ov_dy G N ad s0 s f H locs) (ha : a < N) (he : f a = .inr (ci, fs)) (hc : vwCl[ci]? = some (C, T, nn))
    (hn : As.length = n) (hls : ls.size = nL) (hst : st = As.reverse ++ .ref (ad a) :: rest) (hro : (rest.map fun v => v.category).sum ≤ 8) (hdg : decode cc pc = .ok (.invokevirtual index, 3)) (hf : cells + mc ≤ R.cells ∧ slots + ms ≤ R.slots)
    (kx : ∀ (E : String) (ce : Cell) (q9 : Addr) (H1 : Heap) (locs1 : List Loc), PX E → ov_dy G N ad s0 s f H1 locs1 → H1[q9]? = some ce → ce.vm = .none → s.vm.findClass E = some ce.cls → vx_W p l e R s m args below meth c H1 locs1 (cells + mc) (slots + ms) Q (F0 m pc ls rest) q9)
    (kk : ∀ (r : Nat) (f' : Nat → va_E) (H1 : Heap) (locs1 : List Loc), post r f' → ov_dy G N ad s0 s f' H1 locs1 → W p l e R s m args below meth c H1 locs1 (cells + mc) (slots + ms) Q (F0 m (pc + 3) ls (.ref (ad r) :: rest))) : W p l e R s m args below meth c H locs cells slots Q (F0 m pc ls st) := by
  intro T hT X
  rcases vx_runV (As := As) (rest := rest) (g := F0 m pc ls st) S hM cw (ov_preV hG ha he hc) rfl hn hls hst (lv_room hro) hdg hf T hT X with ⟨v, st₀, t, T', L, h0, X', hL, e1, e2, ⟨⟨r, u, hv, hp, hB⟩, hF⟩, stp⟩ | ⟨q, st₀, t, T', L, E, ce, h0, X', hL, e1, e2, ⟨u, hp, hB, hF⟩, hce, hcv, hcl, stp⟩
  · cases hv
    obtain ⟨k1, k2, k3⟩ := vx_keep (A1 := ov_A s0) h0 e1 hG.2.2.1 (fun _ _ h => h) (fun _ h => h) hL hF
    obtain ⟨t2, a1, b1⟩ := kk r u T'.heap (locs ++ L) hp (hG.next hB e1.symm k3) T' rfl X'
    exact ⟨t2, stp t2 a1, b1⟩
  · obtain ⟨k1, k2, k3⟩ := vx_keep (A1 := ov_A s0) h0 e1 hG.2.2.1 (fun _ _ h => h) (fun _ h => h) hL hF
    obtain ⟨t2, a1, b1⟩ := kx E ce q T'.heap (locs ++ L) hB.1 (hG.next hB.2 e1.symm k3) (by rw [e1]; exact hce) hcv hcl T' rfl X'
    exact ⟨t2, stp.trans a1, b1⟩
end Calls
end OVC
end
section
section OVT
/-- a Table at the cell t: its two rows behind it, n of their 600 places in use -/
def TB (G : Gx) (N : Nat) (ad : Nat → Nat) (f : Nat → va_E) (t n : Nat) (k v : Nat → Int32) : Prop :=
  f t = .inr (1, [.ref (ad (t + 1)), .ref (ad (t + 2)), .int (nI n)]) ∧ f (t + 1) = eI G 600 k ∧ f (t + 2) = eI G 600 v ∧ n ≤ 600 ∧ t + 2 < N
section
variable {G : Gx} {N : Nat} {ad : Nat → Nat} {f f1 : Nat → va_E} {t n : Nat} {k v : Nat → Int32}
theorem TB.lt0 (h : TB G N ad f t n k v) : t < N := by have := h.2.2.2.2; omega
theorem TB.lt1 (h : TB G N ad f t n k v) : t + 1 < N := by have := h.2.2.2.2; omega
theorem TB.lt2 (h : TB G N ad f t n k v) : t + 2 < N := h.2.2.2.2
theorem TB.upk {k2 : Nat → Int32} (h : TB G N ad f t n k v) (e : f1 = va_up f (t + 1) (eI G 600 k2)) : TB G N ad f1 t n k2 v := by
  subst e
  exact ⟨by rw [va_up_ne _ _ (by omega)]; exact h.1, va_up_self .., by rw [va_up_ne _ _ (by omega)]; exact h.2.2.1, h.2.2.2⟩
theorem TB.upv {v2 : Nat → Int32} (h : TB G N ad f t n k v) (e : f1 = va_up f (t + 2) (eI G 600 v2)) : TB G N ad f1 t n k v2 := by
  subst e
  exact ⟨by rw [va_up_ne _ _ (by omega)]; exact h.1, by rw [va_up_ne _ _ (by omega)]; exact h.2.1, va_up_self .., h.2.2.2⟩
theorem TB.upn {n2 : Nat} (h : TB G N ad f t n k v) (e : f1 = va_up f t (.inr (1, [.ref (ad (t + 1)), .ref (ad (t + 2)), .int (nI n2)]))) (hn : n2 ≤ 600) : TB G N ad f1 t n2 k v := by
  subst e
  exact ⟨va_up_self .., by rw [va_up_ne _ _ (by omega)]; exact h.2.1, by rw [va_up_ne _ _ (by omega)]; exact h.2.2.1, hn, h.2.2.2.2⟩
theorem TB.ne {c : Nat} {x : va_E} (h : TB G N ad f t n k v) (e : f1 = va_up f c x) (h0 : t ≠ c) (h1 : t + 1 ≠ c) (h2 : t + 2 ≠ c) : TB G N ad f1 t n k v := by
  subst e
  exact ⟨by rw [va_up_ne _ _ h0]; exact h.1, by rw [va_up_ne _ _ h1]; exact h.2.1, by rw [va_up_ne _ _ h2]; exact h.2.2.1, h.2.2.2⟩
theorem TB.keep (h : TB G N ad f t n k v) (h0 : f1 t = f t) (h1 : f1 (t + 1) = f (t + 1)) (h2 : f1 (t + 2) = f (t + 2)) : TB G N ad f1 t n k v :=
  ⟨h0.trans h.1, h1.trans h.2.1, h2.trans h.2.2.1, h.2.2.2⟩
/-- only the Table at t has changed -/
def Onl (t : Nat) (f f1 : Nat → va_E) : Prop := ∀ c : Nat, c < t ∨ t + 2 < c → f1 c = f c
theorem Onl.rf : Onl t f f := fun _ _ => rfl
theorem Onl.up {f2 : Nat → va_E} {c : Nat} {x : va_E} (h : Onl t f f1) (e : f2 = va_up f1 c x) (hc : t ≤ c ∧ c ≤ t + 2) : Onl t f f2 := by
  subst e
  intro d hd
  rw [va_up_ne _ _ (by omega)]
  exact h d hd
theorem ov_name {s0 : Nat} {s : State} {a : Nat} {x : va_E} {H : Heap} {locs : List Loc} (h : ov_dy G N ad s0 s (va_up f a x) H locs) : ∃ f1, f1 = va_up f a x ∧ ov_dy G N ad s0 s f1 H locs := ⟨_, rfl, h⟩
end
/-! numbers -/
theorem i32_lt (a b : Int32) : a < b ↔ a.toInt < b.toInt := Int32.lt_iff_toInt_lt
theorem i32_le (a b : Int32) : a ≤ b ↔ a.toInt ≤ b.toInt := Int32.le_iff_toInt_le
theorem i32_eq (a b : Int32) : a = b ↔ a.toInt = b.toInt := Int32.toInt_inj.symm
theorem bI_t {b : Bool} (h : b = true) : nI 1 = bI b := by rw [h]; rfl
theorem bI_f {b : Bool} (h : b = false) : nI 0 = bI b := by rw [h]; rfl
theorem nI_of_toInt {x : Int32} {n : Nat} (h : x.toInt = n) (hn : n < 2 ^ 31) : x = nI n := (i32_eq _ _).mpr (by rw [nI_toInt hn]; exact h)
/-! what is counted -/
/-- how many keys ahead are below one: the first place whose key is not -/
def bel : Nat → (Nat → Int32) → Int32 → Nat
  | 0, _, _ => 0
  | n + 1, k, key => if k 0 < key then bel n (fun j => k (j + 1)) key + 1 else 0
theorem bel_eq : ∀ (n : Nat) (k : Nat → Int32) (key : Int32) (b : Nat), b ≤ n → (∀ j, j < b → k j < key) → (b < n → ¬ k b < key) → bel n k key = b := by
  intro n
  induction n with
  | zero => intro k key b h1 _ _; exact (Nat.le_zero.mp h1).symm
  | succ n ih =>
    intro k key b h1 h2 h3
    cases b with
    | zero => simp only [bel]; rw [if_neg (h3 (Nat.succ_pos _))]
    | succ b =>
      simp only [bel]
      rw [if_pos (h2 0 (Nat.succ_pos _)), ih (fun j => k (j + 1)) key b (Nat.le_of_succ_le_succ h1) (fun j hj => h2 (j + 1) (Nat.succ_lt_succ hj)) (fun h => h3 (Nat.succ_lt_succ h))]
theorem bel_ok : ∀ (n : Nat) (k : Nat → Int32) (key : Int32), bel n k key ≤ n ∧ (∀ j, j < bel n k key → k j < key) ∧ (bel n k key < n → ¬ k (bel n k key) < key) := by
  intro n
  induction n with
  | zero => intro k key; exact ⟨Nat.le_refl _, fun j h => absurd h (Nat.not_lt_zero _), fun h => absurd h (Nat.not_lt_zero _)⟩
  | succ n ih =>
    intro k key
    simp only [bel]
    by_cases h : k 0 < key
    · rw [if_pos h]
      obtain ⟨a, b, c⟩ := ih (fun j => k (j + 1)) key
      refine ⟨Nat.succ_le_succ a, fun j hj => ?_, fun hj => c (Nat.lt_of_succ_lt_succ hj)⟩
      cases j with
      | zero => exact h
      | succ j => exact b j (Nat.lt_of_succ_lt_succ hj)
    · rw [if_neg h]
      exact ⟨Nat.zero_le _, fun j hj => absurd hj (Nat.not_lt_zero _), fun _ => h⟩
theorem bel_le (n : Nat) (k : Nat → Int32) (key : Int32) : bel n k key ≤ n := (bel_ok n k key).1
/-- whether a place is one of n -/
def wi (n : Nat) (a : Int32) : Bool := decide (0 ≤ a.toInt ∧ a.toInt < n)
/-- whether a place is one of n, and has the key -/
def ha (n : Nat) (k : Nat → Int32) (a key : Int32) : Bool := decide (0 ≤ a.toInt ∧ a.toInt < n ∧ k a.toInt.toNat = key)
theorem wi_nI {n a : Nat} (h : a < 2 ^ 31) : wi n (nI a) = decide (a < n) := by
  unfold wi; rw [nI_toInt h]; congr 1; apply propext; omega
theorem ha_nI {n a : Nat} {k : Nat → Int32} {key : Int32} (h : a < 2 ^ 31) : ha n k (nI a) key = decide (a < n ∧ k a = key) := by
  unfold ha; rw [nI_toInt h]; congr 1; apply propext
  constructor
  · rintro ⟨_, h2, h3⟩; exact ⟨by omega, by simpa using h3⟩
  · rintro ⟨h2, h3⟩; exact ⟨by omega, by omega, by simpa using h3⟩
theorem wi_t {n : Nat} {a : Int32} (hn : n ≤ 600) (h1 : ¬ a < 0) (h2 : ¬ nI n ≤ a) : wi n a = true := by
  rw [i32_lt, Int32.toInt_zero] at h1
  rw [i32_le, nI_toInt (by omega)] at h2
  simp only [wi, decide_eq_true_eq]; omega
theorem wi_f1 {n : Nat} {a : Int32} (h1 : a < 0) : wi n a = false := by
  rw [i32_lt, Int32.toInt_zero] at h1
  simp only [wi, decide_eq_false_iff_not]; omega
theorem wi_f2 {n : Nat} {a : Int32} (hn : n ≤ 600) (h2 : nI n ≤ a) : wi n a = false := by
  rw [i32_le, nI_toInt (by omega)] at h2
  simp only [wi, decide_eq_false_iff_not]; omega
theorem wi_ex {n : Nat} {a : Int32} (hn : n ≤ 600) (h : wi n a = true) : ∃ j, j < n ∧ a = nI j := by
  simp only [wi, decide_eq_true_eq] at h
  refine ⟨a.toInt.toNat, by omega, nI_of_toInt (by omega) (by omega)⟩
theorem ha_f {n : Nat} {k : Nat → Int32} {a key : Int32} (h : wi n a = false) : ha n k a key = false := by
  simp only [wi, decide_eq_false_iff_not] at h
  simp only [ha, decide_eq_false_iff_not]
  exact fun q => h ⟨q.1, q.2.1⟩
/-- how many keys ahead are not above one -/
def upt (n : Nat) (k : Nat → Int32) (key : Int32) : Nat := if ha n k (nI (bel n k key)) key = true then bel n k key + 1 else bel n k key
theorem upt_le (n : Nat) (k : Nat → Int32) (key : Int32) (hn : n ≤ 600) : upt n k key ≤ n := by
  have h := bel_le n k key
  unfold upt
  rw [ha_nI (by omega)]
  by_cases c : bel n k key < n ∧ k (bel n k key) = key
  · rw [if_pos (by simpa using c)]; omega
  · rw [if_neg (by simpa using c)]; exact h
def nea (n : Nat) (k : Nat → Int32) (key : Int32) (above : Bool) : Int32 := if above = true then nI (bel n k key) else nI (upt n k key) - nI 1
end OVT
end
section
set_option maxHeartbeats 4000000 in
set_option maxRecDepth 100000 in
theorem c_X1_isWithin (l : Launch) (G : Gx) (N : Nat) (ad : Nat → Nat) (s0 : Nat) (f : Nat → va_E) (t n : Nat) (k v : Nat → Int32) (ix : Int32) (hT : TB G N ad f t n k v) : mI l yX1_isWithin wsX1_isWithin 0 0 0 0 [.ref (ad t), .int ix] G N ad s0 f (fun r f' => f = f' ∧ r = bI (wi n ix)) := by
  refine ov_mI (cc := cX1_isWithin) (maxL := 2) (ty := .boolean) (by decide) rfl (Nat.le_of_ble_eq_true rfl) ?_
  intro p e s m below meth c av Q S ret hG ls hl
  have S : CallFix p m c cX1_isWithin 2 s av wsX1_isWithin RX1 := S
  have hl : lv_has ls 2 [(0, .ref (ad t)), (1, .int ix)] := hl
  have i_X1 : ∀ w ∈ u_ws RX1 TX1 3, w ∈ wsX1_isWithin := by decide +kernel
  have kf_18 := S.2.2.2.2 (.fieldLink RX1 18 "OrderedVersions$Table" "count" "I") (by decide +kernel)
  have hTn := hT.2.2.2.1
  have hTN := hT.2.2.2.2
  refine lv_iload_n S.1 S.2.1 dX1_isWithin_0 rfl (lv_at hl 1 rfl) ?_
  refine lv_if_lt (tgt := 16) S.1 S.2.1 dX1_isWithin_1 (by decide) (fun c_1 => ?_) (fun c_1 => ?_)
  · skip
    refine lv_iconst (v := (nI 0)) S.1 S.2.1 dX1_isWithin_16 (by decide) ?_
    exact ret _ _ _ _ _ _ _ _ hG ⟨rfl, bI_f (wi_f1 c_1)⟩ rfl (Nat.le_of_ble_eq_true rfl) (Nat.le_of_ble_eq_true rfl) dX1_isWithin_17
  · skip
    refine lv_iload_n S.1 S.2.1 dX1_isWithin_4 rfl (lv_at hl 1 rfl) ?_
    refine lv_aload_n S.1 S.2.1 dX1_isWithin_5 rfl (lv_at hl 0 rfl) ?_
    refine o_get S hG i_X1 hT.lt0 hT.1 rfl 2 (by decide) kf_18 rfl dX1_isWithin_6 ?_
    refine lv_icmp_ge (tgt := 16) S.1 S.2.1 dX1_isWithin_9 (by decide) (fun c_9 => ?_) (fun c_9 => ?_)
    · skip
      refine lv_iconst (v := (nI 0)) S.1 S.2.1 dX1_isWithin_16 (by decide) ?_
      exact ret _ _ _ _ _ _ _ _ hG ⟨rfl, bI_f (wi_f2 hTn c_9)⟩ rfl (Nat.le_of_ble_eq_true rfl) (Nat.le_of_ble_eq_true rfl) dX1_isWithin_17
    · skip
      refine lv_iconst (v := (nI 1)) S.1 S.2.1 dX1_isWithin_12 (by decide) ?_
      refine lv_goto (tgt := 17) S.1 S.2.1 dX1_isWithin_13 (by decide) ?_
      exact ret _ _ _ _ _ _ _ _ hG ⟨rfl, bI_t (wi_t hTn c_1 c_9)⟩ rfl (Nat.le_of_ble_eq_true rfl) (Nat.le_of_ble_eq_true rfl) dX1_isWithin_17

set_option maxHeartbeats 4000000 in
set_option maxRecDepth 100000 in
theorem c_X1_hasAt (l : Launch) (G : Gx) (N : Nat) (ad : Nat → Nat) (s0 : Nat) (f : Nat → va_E) (t n : Nat) (k v : Nat → Int32) (ix key : Int32) (hT : TB G N ad f t n k v) : mI l yX1_hasAt wsX1_hasAt 1 21 0 0 [.ref (ad t), .int ix, .int key] G N ad s0 f (fun r f' => f = f' ∧ r = bI (ha n k ix key)) := by
  refine ov_mI (cc := cX1_hasAt) (maxL := 3) (ty := .boolean) (by decide) rfl (Nat.le_of_ble_eq_true rfl) ?_
  intro p e s m below meth c av Q S ret hG ls hl
  have S : CallFix p m c cX1_hasAt 3 s av wsX1_hasAt RX1 := S
  have hl : lv_has ls 3 [(0, .ref (ad t)), (1, .int ix), (2, .int key)] := hl
  have i_X1 : ∀ w ∈ u_ws RX1 TX1 3, w ∈ wsX1_hasAt := by decide +kernel
  have kf_9 := S.2.2.2.2 (.fieldLink RX1 9 "OrderedVersions$Table" "keys" "[I") (by decide +kernel)
  have hTn := hT.2.2.2.1
  have hTN := hT.2.2.2.2
  refine lv_aload_n S.1 S.2.1 dX1_hasAt_0 rfl (lv_at hl 0 rfl) ?_
  refine lv_iload_n S.1 S.2.1 dX1_hasAt_1 rfl (lv_at hl 1 rfl) ?_
  refine o_cVi S (rest := []) (c_X1_isWithin l G N ad s0 f t n k v ix hT) (cwV 1 S.2.2.2.2 gX1_hasAt_X1_isWithin rfl rfl rfl (by decide +kernel) ⟨(Nat.le_of_ble_eq_true rfl), (Nat.le_of_ble_eq_true rfl)⟩) hG hT.lt0 hT.1 rfl rfl hl.1 rfl (Nat.le_of_ble_eq_true rfl) dX1_hasAt_2 ⟨(Nat.le_of_ble_eq_true rfl), (Nat.le_of_ble_eq_true rfl)⟩ (fun r9 f9 H locs hp hG => ?_)
  obtain ⟨rfl, rfl⟩ := hp
  refine b_if_eq S (b := (wi n ix)) (tgt := 22) dX1_hasAt_5 (by decide) (fun c_5 => ?_) (fun c_5 => ?_)
  · skip
    refine lv_iconst (v := (nI 0)) S.1 S.2.1 dX1_hasAt_22 (by decide) ?_
    exact ret _ _ _ _ _ _ _ _ hG ⟨rfl, bI_f (ha_f c_5)⟩ rfl (Nat.le_of_ble_eq_true rfl) (Nat.le_of_ble_eq_true rfl) dX1_hasAt_23
  · skip
    obtain ⟨j, hj, rfl⟩ := wi_ex hTn c_5
    refine lv_aload_n S.1 S.2.1 dX1_hasAt_8 rfl (lv_at hl 0 rfl) ?_
    refine o_get S hG i_X1 hT.lt0 hT.1 rfl 0 (by decide) kf_9 rfl dX1_hasAt_9 ?_
    refine lv_iload_n S.1 S.2.1 dX1_hasAt_12 rfl (lv_at hl 1 rfl) ?_
    refine o_iald S hG (j := j) hT.lt1 hT.2.1 (by omega) dX1_hasAt_13 (kk := ?_)
    refine lv_iload_n S.1 S.2.1 dX1_hasAt_14 rfl (lv_at hl 2 rfl) ?_
    refine lv_icmp_ne (tgt := 22) S.1 S.2.1 dX1_hasAt_15 (by decide) (fun c_15 => ?_) (fun c_15 => ?_)
    · skip
      refine lv_iconst (v := (nI 0)) S.1 S.2.1 dX1_hasAt_22 (by decide) ?_
      exact ret _ _ _ _ _ _ _ _ hG ⟨rfl, bI_f (by rw [ha_nI (by omega)]; exact decide_eq_false fun q => c_15 q.2)⟩ rfl (Nat.le_of_ble_eq_true rfl) (Nat.le_of_ble_eq_true rfl) dX1_hasAt_23
    · skip
      refine lv_iconst (v := (nI 1)) S.1 S.2.1 dX1_hasAt_18 (by decide) ?_
      refine lv_goto (tgt := 23) S.1 S.2.1 dX1_hasAt_19 (by decide) ?_
      exact ret _ _ _ _ _ _ _ _ hG ⟨rfl, bI_t (by rw [ha_nI (by omega)]; exact decide_eq_true ⟨hj, c_15⟩)⟩ rfl (Nat.le_of_ble_eq_true rfl) (Nat.le_of_ble_eq_true rfl) dX1_hasAt_23

set_option maxHeartbeats 4000000 in
set_option maxRecDepth 100000 in
theorem c_X1_countBelow (l : Launch) (G : Gx) (N : Nat) (ad : Nat → Nat) (s0 : Nat) (f : Nat → va_E) (t n : Nat) (k v : Nat → Int32) (key : Int32) (hT : TB G N ad f t n k v) : mI l yX1_countBelow wsX1_countBelow 0 0 0 0 [.ref (ad t), .int key] G N ad s0 f (fun r f' => f = f' ∧ r = nI (bel n k key)) := by
  refine ov_mI (cc := cX1_countBelow) (maxL := 3) (ty := .int) (by decide) rfl (Nat.le_of_ble_eq_true rfl) ?_
  intro p e s m below meth c av Q S ret hG ls hl
  have S : CallFix p m c cX1_countBelow 3 s av wsX1_countBelow RX1 := S
  have hl : lv_has ls 3 [(0, .ref (ad t)), (1, .int key)] := hl
  have i_X1 : ∀ w ∈ u_ws RX1 TX1 3, w ∈ wsX1_countBelow := by decide +kernel
  have kf_9 := S.2.2.2.2 (.fieldLink RX1 9 "OrderedVersions$Table" "keys" "[I") (by decide +kernel)
  have kf_18 := S.2.2.2.2 (.fieldLink RX1 18 "OrderedVersions$Table" "count" "I") (by decide +kernel)
  have hTn := hT.2.2.2.1
  have hTN := hT.2.2.2.2
  refine lv_iconst (v := (nI 0)) S.1 S.2.1 dX1_countBelow_0 (by decide) ?_
  refine lv_istore_n (lv' := [(2, .int (nI 0)), (0, .ref (ad t)), (1, .int key)]) S.1 S.2.1 dX1_countBelow_1 rfl hl (by decide) rfl (fun ls hl => ?_)
  have L_2 : ∀ (d9 : Nat) (i : Nat) (H : Heap) (locs : List Loc), (i ≤ n) → (∀ j, j < i → k j < key) → (n - i) < d9 → ov_dy G N ad s0 s f H locs → ∀ ls : Array Slot, lv_has ls 3 [(0, .ref (ad t)), (1, .int key), (2, .int (nI i))] → W p l e (ov_rm 0 0 0 0) s m av below meth c H locs 0 0 Q (F0 m 2 ls []) := by
    intro d9
    induction d9 with
    | zero => intro i H locs hi hlo h9; exact absurd h9 (Nat.not_lt_zero _)
    | succ d9 ih_2 =>
      intro i H locs hi hlo h9 hG ls hl
      refine lv_iload_n S.1 S.2.1 dX1_countBelow_2 rfl (lv_at hl 2 rfl) ?_
      refine lv_aload_n S.1 S.2.1 dX1_countBelow_3 rfl (lv_at hl 0 rfl) ?_
      refine o_get S hG i_X1 hT.lt0 hT.1 rfl 2 (by decide) kf_18 rfl dX1_countBelow_4 ?_
      refine n_ge S (a := i) (b := n) (tgt := 26) dX1_countBelow_7 (by decide) (by omega) (by omega) (fun c_7 => ?_) (fun c_7 => ?_)
      · skip
        refine lv_iload_n S.1 S.2.1 dX1_countBelow_26 rfl (lv_at hl 2 rfl) ?_
        exact ret _ _ _ _ _ _ _ _ hG ⟨rfl, by rw [bel_eq n k key i hi hlo (fun h => absurd h (by omega))]⟩ rfl (Nat.le_of_ble_eq_true rfl) (Nat.le_of_ble_eq_true rfl) dX1_countBelow_27
      · skip
        refine lv_aload_n S.1 S.2.1 dX1_countBelow_10 rfl (lv_at hl 0 rfl) ?_
        refine o_get S hG i_X1 hT.lt0 hT.1 rfl 0 (by decide) kf_9 rfl dX1_countBelow_11 ?_
        refine lv_iload_n S.1 S.2.1 dX1_countBelow_14 rfl (lv_at hl 2 rfl) ?_
        refine o_iald S hG (j := i) hT.lt1 hT.2.1 (by omega) dX1_countBelow_15 (kk := ?_)
        refine lv_iload_n S.1 S.2.1 dX1_countBelow_16 rfl (lv_at hl 1 rfl) ?_
        refine lv_icmp_ge (tgt := 26) S.1 S.2.1 dX1_countBelow_17 (by decide) (fun c_17 => ?_) (fun c_17 => ?_)
        · skip
          refine lv_iload_n S.1 S.2.1 dX1_countBelow_26 rfl (lv_at hl 2 rfl) ?_
          exact ret _ _ _ _ _ _ _ _ hG ⟨rfl, by rw [bel_eq n k key i hi hlo (fun _ h => by rw [i32_lt] at h; rw [i32_le] at c_17; omega)]⟩ rfl (Nat.le_of_ble_eq_true rfl) (Nat.le_of_ble_eq_true rfl) dX1_countBelow_27
        · skip
          refine lv_iinc (v := (nI (i + 1))) (lv' := [(2, .int (nI (i + 1))), (0, .ref (ad t)), (1, .int key)]) S.1 S.2.1 dX1_countBelow_20 hl (k := 2) rfl (nI_add i 1) (by decide) rfl (fun ls hl => ?_)
          refine lv_goto (tgt := 2) S.1 S.2.1 dX1_countBelow_23 (by decide) ?_
          exact ih_2 (i + 1) _ _ (by omega) (lt_s hlo (by rw [i32_lt]; rw [i32_le] at c_17; omega)) (by omega) hG ls (lv_sub hl [1, 2, 0] rfl)
  exact L_2 _ 0 _ _ (Nat.zero_le _) (fun j h => absurd h (Nat.not_lt_zero _)) (Nat.lt_succ_self _) hG ls (lv_sub hl [1, 2, 0] rfl)

set_option maxHeartbeats 4000000 in
set_option maxRecDepth 100000 in
theorem c_X1_countNotAbove (l : Launch) (G : Gx) (N : Nat) (ad : Nat → Nat) (s0 : Nat) (f : Nat → va_E) (t n : Nat) (k v : Nat → Int32) (key : Int32) (hT : TB G N ad f t n k v) : mI l yX1_countNotAbove wsX1_countNotAbove 2 43 0 0 [.ref (ad t), .int key] G N ad s0 f (fun r f' => f = f' ∧ r = nI (upt n k key)) := by
  refine ov_mI (cc := cX1_countNotAbove) (maxL := 3) (ty := .int) (by decide) rfl (Nat.le_of_ble_eq_true rfl) ?_
  intro p e s m below meth c av Q S ret hG ls hl
  have S : CallFix p m c cX1_countNotAbove 3 s av wsX1_countNotAbove RX1 := S
  have hl : lv_has ls 3 [(0, .ref (ad t)), (1, .int key)] := hl
  have hTn := hT.2.2.2.1
  have hTN := hT.2.2.2.2
  refine lv_aload_n S.1 S.2.1 dX1_countNotAbove_0 rfl (lv_at hl 0 rfl) ?_
  refine lv_iload_n S.1 S.2.1 dX1_countNotAbove_1 rfl (lv_at hl 1 rfl) ?_
  refine o_cVi S (rest := []) (c_X1_countBelow l G N ad s0 f t n k v key hT) (cwV 1 S.2.2.2.2 gX1_countNotAbove_X1_countBelow rfl rfl rfl (by decide +kernel) ⟨(Nat.le_of_ble_eq_true rfl), (Nat.le_of_ble_eq_true rfl)⟩) hG hT.lt0 hT.1 rfl rfl hl.1 rfl (Nat.le_of_ble_eq_true rfl) dX1_countNotAbove_2 ⟨(Nat.le_of_ble_eq_true rfl), (Nat.le_of_ble_eq_true rfl)⟩ (fun r9 f9 H locs hp hG => ?_)
  obtain ⟨rfl, rfl⟩ := hp
  have lb_1 := bel_le n k key
  refine lv_istore_n (lv' := [(2, .int (nI (bel n k key))), (0, .ref (ad t)), (1, .int key)]) S.1 S.2.1 dX1_countNotAbove_5 rfl hl (by decide) rfl (fun ls hl => ?_)
  refine lv_aload_n S.1 S.2.1 dX1_countNotAbove_6 rfl (lv_at hl 1 rfl) ?_
  refine lv_iload_n S.1 S.2.1 dX1_countNotAbove_7 rfl (lv_at hl 0 rfl) ?_
  refine lv_iload_n S.1 S.2.1 dX1_countNotAbove_8 rfl (lv_at hl 2 rfl) ?_
  refine o_cVi S (rest := []) (c_X1_hasAt l G N ad s0 f t n k v (nI (bel n k key)) key hT) (cwV 2 S.2.2.2.2 gX1_countNotAbove_X1_hasAt rfl rfl rfl (by decide +kernel) ⟨(Nat.le_of_ble_eq_true rfl), (Nat.le_of_ble_eq_true rfl)⟩) hG hT.lt0 hT.1 rfl rfl hl.1 rfl (Nat.le_of_ble_eq_true rfl) dX1_countNotAbove_9 ⟨(Nat.le_of_ble_eq_true rfl), (Nat.le_of_ble_eq_true rfl)⟩ (fun r9 f9 H locs hp hG => ?_)
  obtain ⟨rfl, rfl⟩ := hp
  refine b_if_eq S (b := (ha n k (nI (bel n k key)) key)) (tgt := 21) dX1_countNotAbove_12 (by decide) (fun c_12 => ?_) (fun c_12 => ?_)
  · skip
    refine lv_iload_n S.1 S.2.1 dX1_countNotAbove_21 rfl (lv_at hl 0 rfl) ?_
    exact ret _ _ _ _ _ _ _ _ hG ⟨rfl, by unfold upt; rw [if_neg (Bool.eq_false_iff.mp c_12)]⟩ rfl (Nat.le_of_ble_eq_true rfl) (Nat.le_of_ble_eq_true rfl) dX1_countNotAbove_22
  · skip
    refine lv_iload_n S.1 S.2.1 dX1_countNotAbove_15 rfl (lv_at hl 0 rfl) ?_
    refine lv_iconst (v := (nI 1)) S.1 S.2.1 dX1_countNotAbove_16 (by decide) ?_
    refine o_add S (a := bel n k key) (b := 1) dX1_countNotAbove_17 ?_
    refine lv_goto (tgt := 22) S.1 S.2.1 dX1_countNotAbove_18 (by decide) ?_
    exact ret _ _ _ _ _ _ _ _ hG ⟨rfl, by unfold upt; rw [if_pos c_12]⟩ rfl (Nat.le_of_ble_eq_true rfl) (Nat.le_of_ble_eq_true rfl) dX1_countNotAbove_22

set_option maxHeartbeats 4000000 in
set_option maxRecDepth 100000 in
theorem c_X1_nearest (l : Launch) (G : Gx) (N : Nat) (ad : Nat → Nat) (s0 : Nat) (f : Nat → va_E) (t n : Nat) (k v : Nat → Int32) (key : Int32) (ab : Bool) (hT : TB G N ad f t n k v) : mI l yX1_nearest wsX1_nearest 3 65 0 0 [.ref (ad t), .int key, .int (bI ab)] G N ad s0 f (fun r f' => f = f' ∧ r = nea n k key ab) := by
  refine ov_mI (cc := cX1_nearest) (maxL := 3) (ty := .int) (by decide) rfl (Nat.le_of_ble_eq_true rfl) ?_
  intro p e s m below meth c av Q S ret hG ls hl
  have S : CallFix p m c cX1_nearest 3 s av wsX1_nearest RX1 := S
  have hl : lv_has ls 3 [(0, .ref (ad t)), (1, .int key), (2, .int (bI ab))] := hl
  have hTn := hT.2.2.2.1
  have hTN := hT.2.2.2.2
  refine lv_iload_n S.1 S.2.1 dX1_nearest_0 rfl (lv_at hl 2 rfl) ?_
  refine b_if_eq S (b := ab) (tgt := 12) dX1_nearest_1 (by decide) (fun c_1 => ?_) (fun c_1 => ?_)
  · skip
    refine lv_aload_n S.1 S.2.1 dX1_nearest_12 rfl (lv_at hl 0 rfl) ?_
    refine lv_iload_n S.1 S.2.1 dX1_nearest_13 rfl (lv_at hl 1 rfl) ?_
    refine o_cVi S (rest := []) (c_X1_countNotAbove l G N ad s0 f t n k v key hT) (cwV 1 S.2.2.2.2 gX1_nearest_X1_countNotAbove rfl rfl rfl (by decide +kernel) ⟨(Nat.le_of_ble_eq_true rfl), (Nat.le_of_ble_eq_true rfl)⟩) hG hT.lt0 hT.1 rfl rfl hl.1 rfl (Nat.le_of_ble_eq_true rfl) dX1_nearest_14 ⟨(Nat.le_of_ble_eq_true rfl), (Nat.le_of_ble_eq_true rfl)⟩ (fun r9 f9 H locs hp hG => ?_)
    obtain ⟨rfl, rfl⟩ := hp
    have lb_1 := upt_le n k key hT.2.2.2.1
    refine lv_iconst (v := (nI 1)) S.1 S.2.1 dX1_nearest_17 (by decide) ?_
    refine lv_isub S.1 S.2.1 dX1_nearest_18 ?_
    exact ret _ _ _ _ _ _ _ _ hG ⟨rfl, by rw [c_1]; rfl⟩ rfl (Nat.le_of_ble_eq_true rfl) (Nat.le_of_ble_eq_true rfl) dX1_nearest_19
  · skip
    refine lv_aload_n S.1 S.2.1 dX1_nearest_4 rfl (lv_at hl 0 rfl) ?_
    refine lv_iload_n S.1 S.2.1 dX1_nearest_5 rfl (lv_at hl 1 rfl) ?_
    refine o_cVi S (rest := []) (c_X1_countBelow l G N ad s0 f t n k v key hT) (cwV 1 S.2.2.2.2 gX1_nearest_X1_countBelow rfl rfl rfl (by decide +kernel) ⟨(Nat.le_of_ble_eq_true rfl), (Nat.le_of_ble_eq_true rfl)⟩) hG hT.lt0 hT.1 rfl rfl hl.1 rfl (Nat.le_of_ble_eq_true rfl) dX1_nearest_6 ⟨(Nat.le_of_ble_eq_true rfl), (Nat.le_of_ble_eq_true rfl)⟩ (fun r9 f9 H locs hp hG => ?_)
    obtain ⟨rfl, rfl⟩ := hp
    have lb_2 := bel_le n k key
    refine lv_goto (tgt := 19) S.1 S.2.1 dX1_nearest_9 (by decide) ?_
    exact ret _ _ _ _ _ _ _ _ hG ⟨rfl, by rw [c_1]; rfl⟩ rfl (Nat.le_of_ble_eq_true rfl) (Nat.le_of_ble_eq_true rfl) dX1_nearest_19
end
section
section OVM
def insF (k : Nat → Int32) (a : Nat) (x : Int32) : Nat → Int32 := fun i => if i < a then k i else if i = a then x else k (i - 1)
def delF (k : Nat → Int32) (a d : Nat) : Nat → Int32 := fun i => if i < a then k i else k (i + d)
theorem ins_cpy {k : Nat → Int32} {a n : Nat} {x : Int32} (ha : a ≤ n) {i : Nat} (hi : i < n + 1) : upd (va_cpy k k a (a + 1) (n - a)) a x i = insF k a x i := by
  simp only [upd, va_cpy, insF]
  by_cases h1 : i = a
  · rw [if_pos h1, if_neg (by omega), if_pos h1]
  · rw [if_neg h1]
    by_cases h2 : i < a
    · rw [if_neg (by omega), if_pos h2]
    · rw [if_pos (by omega), if_neg h2, if_neg h1]; congr 1; omega
theorem del_cpy {k : Nat → Int32} {a b n : Nat} (h1 : a ≤ b) (h2 : b ≤ n) {i : Nat} (hi : i < n - (b - a)) : va_cpy k k b a (n - b) i = delF k a (b - a) i := by
  simp only [va_cpy, delF]
  by_cases h : i < a
  · rw [if_neg (by omega), if_pos h]
  · rw [if_pos (by omega), if_neg h]; congr 1; omega
theorem cpy_0 {k k2 : Nat → Int32} {n i : Nat} (hi : i < n) : va_cpy k2 k 0 0 n i = k2 i := by
  simp only [va_cpy]
  rw [if_pos (by omega)]; congr 1; omega
def Srt (n : Nat) (k : Nat → Int32) : Prop := ∀ i j : Nat, i < j → j < n → k i < k j
def cnt : Nat → (Nat → Bool) → Nat
  | 0, _ => 0
  | n + 1, p => cnt n p + (if p n = true then 1 else 0)
theorem cnt_t {n : Nat} {p : Nat → Bool} (h : p n = true) : cnt (n + 1) p = cnt n p + 1 := by simp [cnt, h]
theorem cnt_f {n : Nat} {p : Nat → Bool} (h : p n = false) : cnt (n + 1) p = cnt n p := by simp [cnt, h]
theorem cnt_le (n : Nat) (p : Nat → Bool) : cnt n p ≤ n := by
  induction n with
  | zero => exact Nat.le_refl _
  | succ n ih => simp only [cnt]; split <;> omega
theorem cnt_not (n : Nat) (p : Nat → Bool) : cnt n p + cnt n (fun j => !p j) = n := by
  induction n with
  | zero => rfl
  | succ n ih =>
    have h : p n = true ∨ p n = false := by cases p n <;> simp
    rcases h with h | h <;> simp [cnt, h] <;> omega
theorem cnt_congr {n : Nat} {p q : Nat → Bool} (h : ∀ i, i < n → p i = q i) : cnt n p = cnt n q := by
  induction n with
  | zero => rfl
  | succ n ih => simp only [cnt]; rw [ih (fun i hi => h i (by omega)), h n (by omega)]
/-- whether a key is there -/
def hs (n : Nat) (k : Nat → Int32) (x : Int32) : Bool := decide (bel n k x < n ∧ k (bel n k x) = x)
theorem ha_bel {n : Nat} {k : Nat → Int32} {x : Int32} (hn : n ≤ 600) : ha n k (nI (bel n k x)) x = hs n k x := by
  have h := bel_le n k x
  rw [ha_nI (by omega)]; rfl
/-- whether the i-th key of one is in the other (on al: with its value) -/
def sh (n2 : Nat) (k2 v2 : Nat → Int32) (al : Bool) (k v : Nat → Int32) (i : Nat) : Bool := hs n2 k2 (k i) && (!al || decide (v2 (bel n2 k2 (k i)) = v i))
theorem i32_irr (a : Int32) : ¬ a < a := by rw [i32_lt]; omega
theorem i32_tr {a b c : Int32} (h1 : a < b) (h2 : b < c) : a < c := by rw [i32_lt] at *; omega
theorem i32_of_nle {a b : Int32} (h : ¬ b ≤ a) : a < b := by rw [i32_lt]; rw [i32_le] at h; omega
theorem i32_of_nlt {a b : Int32} (h : ¬ a < b) : b ≤ a := by rw [i32_le]; rw [i32_lt] at h; omega
theorem i32_nlt {a b : Int32} (h : b ≤ a) : ¬ a < b := by rw [i32_lt]; rw [i32_le] at h; omega
theorem i32_lt_le {a b c : Int32} (h1 : a < b) (h2 : b ≤ c) : a < c := by rw [i32_lt] at *; rw [i32_le] at h2; omega
theorem i32_le_lt {a b c : Int32} (h1 : a ≤ b) (h2 : b < c) : a < c := by rw [i32_lt] at *; rw [i32_le] at h1; omega
theorem i32_le_ne {a b : Int32} (h1 : a ≤ b) (h2 : a ≠ b) : a < b := by
  rw [i32_lt]; rw [i32_le] at h1
  have h3 : a.toInt ≠ b.toInt := fun q => h2 (Int32.toInt_inj.mp q)
  omega
theorem i32_asym {a b : Int32} (h1 : a < b) (h2 : b < a) : False := i32_irr a (i32_tr h1 h2)
theorem nI_min {a b : Nat} (ha : a < 2 ^ 31) (hb : b < 2 ^ 31) : (if nI b < nI a then nI b else nI a) = nI (min a b) := by
  by_cases h : b < a
  · rw [if_pos ((nI_ltI hb ha).mpr h), Nat.min_eq_right (by omega)]
  · rw [if_neg (fun q => h ((nI_ltI hb ha).mp q)), Nat.min_eq_left (by omega)]
/-- the number before a counted one -/
def pI (a : Nat) : Int32 := nI a - nI 1
theorem pI_succ (a : Nat) : pI (a + 1) = nI a := by
  have h := nI_pred a
  exact h
theorem pI_0 : pI 0 = -1 := by decide
theorem pI_inc (a : Nat) : nI a + Int32.ofInt (-1) = pI a := by
  have h : (Int32.ofInt (-1)) = -nI 1 := by decide
  rw [h]; exact (Int32.sub_eq_add_neg _ _).symm
theorem pI_toInt {a : Nat} (h : a < 2 ^ 31) : (pI a).toInt = (a : Int) - 1 := by
  cases a with
  | zero => rw [pI_0]; rfl
  | succ a => rw [pI_succ, nI_toInt (by omega)]; omega
theorem pI_neg {a : Nat} (h : a < 2 ^ 31) (q : pI a < 0) : a = 0 := by
  rw [i32_lt, pI_toInt h, Int32.toInt_zero] at q; omega
theorem pI_pos {a : Nat} (h : a < 2 ^ 31) (q : ¬ pI a < 0) : ∃ b, a = b + 1 := by
  rw [i32_lt, pI_toInt h, Int32.toInt_zero] at q
  exact ⟨a - 1, by omega⟩
theorem pI_add {a b : Nat} : pI a + nI b = pI (a + b) := by
  unfold pI
  rw [← nI_add, Int32.sub_eq_add_neg, Int32.sub_eq_add_neg, Int32.add_assoc, Int32.add_assoc, Int32.add_comm (-nI 1) (nI b)]
theorem hs_iff {n : Nat} {k : Nat → Int32} (hS : Srt n k) (x : Int32) : hs n k x = true ↔ ∃ i, i < n ∧ k i = x := by
  simp only [hs, decide_eq_true_eq]
  constructor
  · rintro ⟨h1, h2⟩; exact ⟨_, h1, h2⟩
  · rintro ⟨i, h1, h2⟩
    have e : bel n k x = i := bel_eq n k x i (by omega) (fun j hj => by rw [← h2]; exact hS j i hj h1) (fun _ q => by rw [h2] at q; exact i32_irr _ q)
    rw [e]; exact ⟨h1, h2⟩
theorem hs_false {n : Nat} {k : Nat → Int32} (hS : Srt n k) {x : Int32} (h : ∀ i, i < n → k i ≠ x) : hs n k x = false := by
  cases q : hs n k x with
  | false => rfl
  | true => obtain ⟨i, h1, h2⟩ := (hs_iff hS x).mp q; exact absurd h2 (h i h1)
theorem bel_at {n : Nat} {k : Nat → Int32} (hS : Srt n k) {i : Nat} (hi : i < n) : bel n k (k i) = i :=
  bel_eq n k (k i) i (by omega) (fun j hj => hS j i hj hi) (fun _ q => i32_irr _ q)
def Has (n : Nat) (k v : Nat → Int32) (x y : Int32) : Prop := ∃ i, i < n ∧ k i = x ∧ v i = y
theorem upd_same (k : Nat → Int32) (i : Nat) : upd k i (k i) = k := by
  funext j; simp only [upd]; split
  · rename_i h; rw [h]
  · rfl
end OVM
end
section
set_option maxHeartbeats 4000000 in
set_option maxRecDepth 100000 in
theorem c_X1_insertAt (l : Launch) (G : Gx) (N : Nat) (ad : Nat → Nat) (s0 : Nat) (f : Nat → va_E) (t n : Nat) (k v : Nat → Int32) (a : Nat) (key w : Int32) (hT : TB G N ad f t n k v) (ha9 : a ≤ n) (hn9 : n < 600) : mV l yX1_insertAt wsX1_insertAt 1 80 0 0 [.ref (ad t), .int (nI a), .int key, .int w] G N ad s0 f (fun f' => ∃ k2 v2, TB G N ad f' t (n + 1) k2 v2 ∧ Onl t f f' ∧ ∀ i, i < n + 1 → k2 i = insF k a key i ∧ v2 i = insF v a w i) := by
  refine ov_mV (cc := cX1_insertAt) (maxL := 4) (by decide) rfl (Nat.le_of_ble_eq_true rfl) ?_
  intro p e s m below meth c av Q S ret hG ls hl
  have S : CallFix p m c cX1_insertAt 4 s av wsX1_insertAt RX1 := S
  have hl : lv_has ls 4 [(0, .ref (ad t)), (1, .int (nI a)), (2, .int key), (3, .int w)] := hl
  have i_X1 : ∀ w ∈ u_ws RX1 TX1 3, w ∈ wsX1_insertAt := by decide +kernel
  have kf_9 := S.2.2.2.2 (.fieldLink RX1 9 "OrderedVersions$Table" "keys" "[I") (by decide +kernel)
  have kf_15 := S.2.2.2.2 (.fieldLink RX1 15 "OrderedVersions$Table" "values" "[I") (by decide +kernel)
  have kf_18 := S.2.2.2.2 (.fieldLink RX1 18 "OrderedVersions$Table" "count" "I") (by decide +kernel)
  have hTn := hT.2.2.2.1
  have hTN := hT.2.2.2.2
  have hO : Onl t f f := Onl.rf
  refine lv_aload_n S.1 S.2.1 dX1_insertAt_0 rfl (lv_at hl 0 rfl) ?_
  refine o_get S hG i_X1 hT.lt0 hT.1 rfl 0 (by decide) kf_9 rfl dX1_insertAt_1 ?_
  refine lv_iload_n S.1 S.2.1 dX1_insertAt_4 rfl (lv_at hl 1 rfl) ?_
  refine lv_aload_n S.1 S.2.1 dX1_insertAt_5 rfl (lv_at hl 0 rfl) ?_
  refine o_get S hG i_X1 hT.lt0 hT.1 rfl 0 (by decide) kf_9 rfl dX1_insertAt_6 ?_
  refine lv_iload_n S.1 S.2.1 dX1_insertAt_9 rfl (lv_at hl 1 rfl) ?_
  refine lv_iconst (v := (nI 1)) S.1 S.2.1 dX1_insertAt_10 (by decide) ?_
  refine o_add S (a := a) (b := 1) dX1_insertAt_11 ?_
  refine lv_aload_n S.1 S.2.1 dX1_insertAt_12 rfl (lv_at hl 0 rfl) ?_
  refine o_get S hG i_X1 hT.lt0 hT.1 rfl 2 (by decide) kf_18 rfl dX1_insertAt_13 ?_
  refine lv_iload_n S.1 S.2.1 dX1_insertAt_16 rfl (lv_at hl 1 rfl) ?_
  refine o_sub S (a := n) (b := a) dX1_insertAt_17 (by omega) ?_
  refine o_copyi S hG hl.1 (S.2.2.2.2 (.methodLink RX1 37 arraycopyName) (by decide +kernel)) (S.2.2.2.2 (.native arraycopyName) (by decide +kernel)) (S.2.2.2.2 (.static arraycopyName) (by decide +kernel)) (S.2.2.2.2 (.initialized "java/lang/System") (by decide +kernel)) (a := t + 1) (b := t + 1) (sp := a) (dp := a + 1) (n := n - a) hT.lt1 hT.lt1 hT.2.1 hT.2.1 (by omega) (by omega) (by decide) (by decide) (Nat.le_of_ble_eq_true rfl) (Nat.le_of_ble_eq_true rfl) dX1_insertAt_18 (fun H locs hG => ?_)
  obtain ⟨f_1, ef_1, hG⟩ := ov_name hG
  have hT := hT.upk ef_1
  have hO := hO.up ef_1 (by omega)
  refine lv_aload_n S.1 S.2.1 dX1_insertAt_21 rfl (lv_at hl 0 rfl) ?_
  refine o_get S hG i_X1 hT.lt0 hT.1 rfl 1 (by decide) kf_15 rfl dX1_insertAt_22 ?_
  refine lv_iload_n S.1 S.2.1 dX1_insertAt_25 rfl (lv_at hl 1 rfl) ?_
  refine lv_aload_n S.1 S.2.1 dX1_insertAt_26 rfl (lv_at hl 0 rfl) ?_
  refine o_get S hG i_X1 hT.lt0 hT.1 rfl 1 (by decide) kf_15 rfl dX1_insertAt_27 ?_
  refine lv_iload_n S.1 S.2.1 dX1_insertAt_30 rfl (lv_at hl 1 rfl) ?_
  refine lv_iconst (v := (nI 1)) S.1 S.2.1 dX1_insertAt_31 (by decide) ?_
  refine o_add S (a := a) (b := 1) dX1_insertAt_32 ?_
  refine lv_aload_n S.1 S.2.1 dX1_insertAt_33 rfl (lv_at hl 0 rfl) ?_
  refine o_get S hG i_X1 hT.lt0 hT.1 rfl 2 (by decide) kf_18 rfl dX1_insertAt_34 ?_
  refine lv_iload_n S.1 S.2.1 dX1_insertAt_37 rfl (lv_at hl 1 rfl) ?_
  refine o_sub S (a := n) (b := a) dX1_insertAt_38 (by omega) ?_
  refine o_copyi S hG hl.1 (S.2.2.2.2 (.methodLink RX1 37 arraycopyName) (by decide +kernel)) (S.2.2.2.2 (.native arraycopyName) (by decide +kernel)) (S.2.2.2.2 (.static arraycopyName) (by decide +kernel)) (S.2.2.2.2 (.initialized "java/lang/System") (by decide +kernel)) (a := t + 2) (b := t + 2) (sp := a) (dp := a + 1) (n := n - a) hT.lt2 hT.lt2 hT.2.2.1 hT.2.2.1 (by omega) (by omega) (by decide) (by decide) (Nat.le_of_ble_eq_true rfl) (Nat.le_of_ble_eq_true rfl) dX1_insertAt_39 (fun H locs hG => ?_)
  obtain ⟨f_2, ef_2, hG⟩ := ov_name hG
  have hT := hT.upv ef_2
  have hO := hO.up ef_2 (by omega)
  refine lv_aload_n S.1 S.2.1 dX1_insertAt_42 rfl (lv_at hl 0 rfl) ?_
  refine o_get S hG i_X1 hT.lt0 hT.1 rfl 0 (by decide) kf_9 rfl dX1_insertAt_43 ?_
  refine lv_iload_n S.1 S.2.1 dX1_insertAt_46 rfl (lv_at hl 1 rfl) ?_
  refine lv_iload_n S.1 S.2.1 dX1_insertAt_47 rfl (lv_at hl 2 rfl) ?_
  refine o_iast S hG (j := a) hT.lt1 hT.2.1 (by omega) dX1_insertAt_48 (kk := fun H locs hG => ?_)
  obtain ⟨f_3, ef_3, hG⟩ := ov_name hG
  have hT := hT.upk ef_3
  have hO := hO.up ef_3 (by omega)
  refine lv_aload_n S.1 S.2.1 dX1_insertAt_49 rfl (lv_at hl 0 rfl) ?_
  refine o_get S hG i_X1 hT.lt0 hT.1 rfl 1 (by decide) kf_15 rfl dX1_insertAt_50 ?_
  refine lv_iload_n S.1 S.2.1 dX1_insertAt_53 rfl (lv_at hl 1 rfl) ?_
  refine lv_iload_n S.1 S.2.1 dX1_insertAt_54 rfl (lv_at hl 3 rfl) ?_
  refine o_iast S hG (j := a) hT.lt2 hT.2.2.1 (by omega) dX1_insertAt_55 (kk := fun H locs hG => ?_)
  obtain ⟨f_4, ef_4, hG⟩ := ov_name hG
  have hT := hT.upv ef_4
  have hO := hO.up ef_4 (by omega)
  refine lv_aload_n S.1 S.2.1 dX1_insertAt_56 rfl (lv_at hl 0 rfl) ?_
  refine lv_dup S.1 S.2.1 dX1_insertAt_57 rfl ?_
  refine o_get S hG i_X1 hT.lt0 hT.1 rfl 2 (by decide) kf_18 rfl dX1_insertAt_58 ?_
  refine lv_iconst (v := (nI 1)) S.1 S.2.1 dX1_insertAt_61 (by decide) ?_
  refine o_add S (a := n) (b := 1) dX1_insertAt_62 ?_
  refine o_put S hG i_X1 tyX1_ok nmX1 hT.lt0 hT.1 rfl 2 (by decide) kf_18 rfl rfl rfl (Nat.le_of_ble_eq_true rfl) dX1_insertAt_63 (fun H locs hG => ?_)
  obtain ⟨f_5, ef_5, hG⟩ := ov_name hG
  have hT := hT.upn ef_5 (n2 := n + 1) (by omega)
  have hO := hO.up ef_5 (by omega)
  exact ret _ _ _ _ _ _ _ hG ⟨_, _, hT, hO, fun i hi => ⟨ins_cpy ha9 hi, ins_cpy ha9 hi⟩⟩ (Nat.le_of_ble_eq_true rfl) (Nat.le_of_ble_eq_true rfl) dX1_insertAt_66

set_option maxHeartbeats 4000000 in
set_option maxRecDepth 100000 in
theorem c_X1_dropBetween (l : Launch) (G : Gx) (N : Nat) (ad : Nat → Nat) (s0 : Nat) (f : Nat → va_E) (t n : Nat) (k v : Nat → Int32) (a b : Nat) (hT : TB G N ad f t n k v) (ha9 : a ≤ b) (hb9 : b ≤ n) : mV l yX1_dropBetween wsX1_dropBetween 1 80 0 0 [.ref (ad t), .int (nI a), .int (nI b)] G N ad s0 f (fun f' => ∃ k2 v2, TB G N ad f' t (n - (b - a)) k2 v2 ∧ Onl t f f' ∧ ∀ i, i < n - (b - a) → k2 i = delF k a (b - a) i ∧ v2 i = delF v a (b - a) i) := by
  refine ov_mV (cc := cX1_dropBetween) (maxL := 3) (by decide) rfl (Nat.le_of_ble_eq_true rfl) ?_
  intro p e s m below meth c av Q S ret hG ls hl
  have S : CallFix p m c cX1_dropBetween 3 s av wsX1_dropBetween RX1 := S
  have hl : lv_has ls 3 [(0, .ref (ad t)), (1, .int (nI a)), (2, .int (nI b))] := hl
  have i_X1 : ∀ w ∈ u_ws RX1 TX1 3, w ∈ wsX1_dropBetween := by decide +kernel
  have kf_9 := S.2.2.2.2 (.fieldLink RX1 9 "OrderedVersions$Table" "keys" "[I") (by decide +kernel)
  have kf_15 := S.2.2.2.2 (.fieldLink RX1 15 "OrderedVersions$Table" "values" "[I") (by decide +kernel)
  have kf_18 := S.2.2.2.2 (.fieldLink RX1 18 "OrderedVersions$Table" "count" "I") (by decide +kernel)
  have hTn := hT.2.2.2.1
  have hTN := hT.2.2.2.2
  have hO : Onl t f f := Onl.rf
  refine lv_aload_n S.1 S.2.1 dX1_dropBetween_0 rfl (lv_at hl 0 rfl) ?_
  refine o_get S hG i_X1 hT.lt0 hT.1 rfl 0 (by decide) kf_9 rfl dX1_dropBetween_1 ?_
  refine lv_iload_n S.1 S.2.1 dX1_dropBetween_4 rfl (lv_at hl 2 rfl) ?_
  refine lv_aload_n S.1 S.2.1 dX1_dropBetween_5 rfl (lv_at hl 0 rfl) ?_
  refine o_get S hG i_X1 hT.lt0 hT.1 rfl 0 (by decide) kf_9 rfl dX1_dropBetween_6 ?_
  refine lv_iload_n S.1 S.2.1 dX1_dropBetween_9 rfl (lv_at hl 1 rfl) ?_
  refine lv_aload_n S.1 S.2.1 dX1_dropBetween_10 rfl (lv_at hl 0 rfl) ?_
  refine o_get S hG i_X1 hT.lt0 hT.1 rfl 2 (by decide) kf_18 rfl dX1_dropBetween_11 ?_
  refine lv_iload_n S.1 S.2.1 dX1_dropBetween_14 rfl (lv_at hl 2 rfl) ?_
  refine o_sub S (a := n) (b := b) dX1_dropBetween_15 (by omega) ?_
  refine o_copyi S hG hl.1 (S.2.2.2.2 (.methodLink RX1 37 arraycopyName) (by decide +kernel)) (S.2.2.2.2 (.native arraycopyName) (by decide +kernel)) (S.2.2.2.2 (.static arraycopyName) (by decide +kernel)) (S.2.2.2.2 (.initialized "java/lang/System") (by decide +kernel)) (a := t + 1) (b := t + 1) (sp := b) (dp := a) (n := n - b) hT.lt1 hT.lt1 hT.2.1 hT.2.1 (by omega) (by omega) (by decide) (by decide) (Nat.le_of_ble_eq_true rfl) (Nat.le_of_ble_eq_true rfl) dX1_dropBetween_16 (fun H locs hG => ?_)
  obtain ⟨f_1, ef_1, hG⟩ := ov_name hG
  have hT := hT.upk ef_1
  have hO := hO.up ef_1 (by omega)
  refine lv_aload_n S.1 S.2.1 dX1_dropBetween_19 rfl (lv_at hl 0 rfl) ?_
  refine o_get S hG i_X1 hT.lt0 hT.1 rfl 1 (by decide) kf_15 rfl dX1_dropBetween_20 ?_
  refine lv_iload_n S.1 S.2.1 dX1_dropBetween_23 rfl (lv_at hl 2 rfl) ?_
  refine lv_aload_n S.1 S.2.1 dX1_dropBetween_24 rfl (lv_at hl 0 rfl) ?_
  refine o_get S hG i_X1 hT.lt0 hT.1 rfl 1 (by decide) kf_15 rfl dX1_dropBetween_25 ?_
  refine lv_iload_n S.1 S.2.1 dX1_dropBetween_28 rfl (lv_at hl 1 rfl) ?_
  refine lv_aload_n S.1 S.2.1 dX1_dropBetween_29 rfl (lv_at hl 0 rfl) ?_
  refine o_get S hG i_X1 hT.lt0 hT.1 rfl 2 (by decide) kf_18 rfl dX1_dropBetween_30 ?_
  refine lv_iload_n S.1 S.2.1 dX1_dropBetween_33 rfl (lv_at hl 2 rfl) ?_
  refine o_sub S (a := n) (b := b) dX1_dropBetween_34 (by omega) ?_
  refine o_copyi S hG hl.1 (S.2.2.2.2 (.methodLink RX1 37 arraycopyName) (by decide +kernel)) (S.2.2.2.2 (.native arraycopyName) (by decide +kernel)) (S.2.2.2.2 (.static arraycopyName) (by decide +kernel)) (S.2.2.2.2 (.initialized "java/lang/System") (by decide +kernel)) (a := t + 2) (b := t + 2) (sp := b) (dp := a) (n := n - b) hT.lt2 hT.lt2 hT.2.2.1 hT.2.2.1 (by omega) (by omega) (by decide) (by decide) (Nat.le_of_ble_eq_true rfl) (Nat.le_of_ble_eq_true rfl) dX1_dropBetween_35 (fun H locs hG => ?_)
  obtain ⟨f_2, ef_2, hG⟩ := ov_name hG
  have hT := hT.upv ef_2
  have hO := hO.up ef_2 (by omega)
  refine lv_aload_n S.1 S.2.1 dX1_dropBetween_38 rfl (lv_at hl 0 rfl) ?_
  refine lv_dup S.1 S.2.1 dX1_dropBetween_39 rfl ?_
  refine o_get S hG i_X1 hT.lt0 hT.1 rfl 2 (by decide) kf_18 rfl dX1_dropBetween_40 ?_
  refine lv_iload_n S.1 S.2.1 dX1_dropBetween_43 rfl (lv_at hl 2 rfl) ?_
  refine lv_iload_n S.1 S.2.1 dX1_dropBetween_44 rfl (lv_at hl 1 rfl) ?_
  refine o_sub S (a := b) (b := a) dX1_dropBetween_45 (by omega) ?_
  refine o_sub S (a := n) (b := b - a) dX1_dropBetween_46 (by omega) ?_
  refine o_put S hG i_X1 tyX1_ok nmX1 hT.lt0 hT.1 rfl 2 (by decide) kf_18 rfl rfl rfl (Nat.le_of_ble_eq_true rfl) dX1_dropBetween_47 (fun H locs hG => ?_)
  obtain ⟨f_3, ef_3, hG⟩ := ov_name hG
  have hT := hT.upn ef_3 (n2 := n - (b - a)) (by omega)
  have hO := hO.up ef_3 (by omega)
  exact ret _ _ _ _ _ _ _ hG ⟨_, _, hT, hO, fun i hi => ⟨del_cpy ha9 hb9 hi, del_cpy ha9 hb9 hi⟩⟩ (Nat.le_of_ble_eq_true rfl) (Nat.le_of_ble_eq_true rfl) dX1_dropBetween_50

theorem fill_s {kk vv : Nat → Int32} {i : Nat} {F F2 : Nat → Int32} (hk : ∀ j, j < i → kk j = F j ∧ vv j = F2 j) : ∀ j, j < i + 1 → upd kk i (F i) j = F j ∧ upd vv i (F2 i) j = F2 j := by
  intro j hj
  simp only [upd]
  by_cases h : j = i
  · subst h; simp
  · rw [if_neg h, if_neg h]; exact hk j (by omega)

set_option maxHeartbeats 4000000 in
set_option maxRecDepth 100000 in
theorem c_X1_fill (l : Launch) (G : Gx) (N : Nat) (ad : Nat → Nat) (s0 : Nat) (f : Nat → va_E) (t n : Nat) (k v : Nat → Int32) (q : Nat) (first step times more : Int32) (hT : TB G N ad f t n k v) (hq : q ≤ 600) : mV l yX1_fill wsX1_fill 0 0 0 0 [.ref (ad t), .int first, .int step, .int (nI q), .int times, .int more] G N ad s0 f (fun f' => ∃ k2 v2, TB G N ad f' t q k2 v2 ∧ Onl t f f' ∧ ∀ j, j < q → k2 j = first + (step * (nI j)) ∧ v2 j = times * (first + (step * (nI j))) + more) := by
  refine ov_mV (cc := cX1_fill) (maxL := 8) (by decide) rfl (Nat.le_of_ble_eq_true rfl) ?_
  intro p e s m below meth c av Q S ret hG ls hl
  have S : CallFix p m c cX1_fill 8 s av wsX1_fill RX1 := S
  have hl : lv_has ls 8 [(0, .ref (ad t)), (1, .int first), (2, .int step), (3, .int (nI q)), (4, .int times), (5, .int more)] := hl
  have i_X1 : ∀ w ∈ u_ws RX1 TX1 3, w ∈ wsX1_fill := by decide +kernel
  have kf_9 := S.2.2.2.2 (.fieldLink RX1 9 "OrderedVersions$Table" "keys" "[I") (by decide +kernel)
  have kf_15 := S.2.2.2.2 (.fieldLink RX1 15 "OrderedVersions$Table" "values" "[I") (by decide +kernel)
  have kf_18 := S.2.2.2.2 (.fieldLink RX1 18 "OrderedVersions$Table" "count" "I") (by decide +kernel)
  have hTn := hT.2.2.2.1
  have hTN := hT.2.2.2.2
  have hO : Onl t f f := Onl.rf
  refine lv_iconst (v := (nI 0)) S.1 S.2.1 dX1_fill_0 (by decide) ?_
  refine lv_istore (lv' := [(6, .int (nI 0)), (0, .ref (ad t)), (1, .int first), (2, .int step), (3, .int (nI q)), (4, .int times), (5, .int more)]) S.1 S.2.1 dX1_fill_1 hl (by decide) rfl (fun ls hl => ?_)
  have L_3 : ∀ (d9 : Nat) (i : Nat) (kk : Nat → Int32) (vv : Nat → Int32) (f2 : Nat → va_E) (H : Heap) (locs : List Loc), (TB G N ad f2 t n kk vv) → (Onl t f f2) → (i ≤ q) → (∀ j, j < i → kk j = first + (step * (nI j)) ∧ vv j = times * (first + (step * (nI j))) + more) → (q - i) < d9 → ov_dy G N ad s0 s f2 H locs → ∀ ls : Array Slot, lv_has ls 8 [(0, .ref (ad t)), (1, .int first), (2, .int step), (3, .int (nI q)), (4, .int times), (5, .int more), (6, .int (nI i))] → W p l e (ov_rm 0 0 0 0) s m av below meth c H locs 0 0 Q (F0 m 3 ls []) := by
    intro d9
    induction d9 with
    | zero => intro i kk vv f2 H locs hT hO hi hk h9; exact absurd h9 (Nat.not_lt_zero _)
    | succ d9 ih_3 =>
      intro i kk vv f2 H locs hT hO hi hk h9 hG ls hl
      refine lv_iload S.1 S.2.1 dX1_fill_3 (lv_at hl 6 rfl) ?_
      refine lv_iload_n S.1 S.2.1 dX1_fill_5 rfl (lv_at hl 3 rfl) ?_
      refine n_ge S (a := i) (b := q) (tgt := 47) dX1_fill_6 (by decide) (by omega) (by omega) (fun c_6 => ?_) (fun c_6 => ?_)
      · skip
        refine lv_aload_n S.1 S.2.1 dX1_fill_47 rfl (lv_at hl 0 rfl) ?_
        refine lv_iload_n S.1 S.2.1 dX1_fill_48 rfl (lv_at hl 3 rfl) ?_
        refine o_put S hG i_X1 tyX1_ok nmX1 hT.lt0 hT.1 rfl 2 (by decide) kf_18 rfl rfl rfl (Nat.le_of_ble_eq_true rfl) dX1_fill_49 (fun H locs hG => ?_)
        obtain ⟨f_1, ef_1, hG⟩ := ov_name hG
        have hT := hT.upn ef_1 (n2 := q) (by omega)
        have hO := hO.up ef_1 (by omega)
        exact ret _ _ _ _ _ _ _ hG ⟨_, _, hT, hO, fun j hj => hk j (by omega)⟩ (Nat.le_of_ble_eq_true rfl) (Nat.le_of_ble_eq_true rfl) dX1_fill_52
      · skip
        refine lv_iload_n S.1 S.2.1 dX1_fill_9 rfl (lv_at hl 1 rfl) ?_
        refine lv_iload_n S.1 S.2.1 dX1_fill_10 rfl (lv_at hl 2 rfl) ?_
        refine lv_iload S.1 S.2.1 dX1_fill_11 (lv_at hl 6 rfl) ?_
        refine lv_imul S.1 S.2.1 dX1_fill_13 ?_
        refine lv_iadd S.1 S.2.1 dX1_fill_14 ?_
        refine lv_istore (lv' := [(7, .int (first + (step * (nI i)))), (0, .ref (ad t)), (1, .int first), (2, .int step), (3, .int (nI q)), (4, .int times), (5, .int more), (6, .int (nI i))]) S.1 S.2.1 dX1_fill_15 hl (by decide) rfl (fun ls hl => ?_)
        refine lv_aload_n S.1 S.2.1 dX1_fill_17 rfl (lv_at hl 1 rfl) ?_
        refine o_get S hG i_X1 hT.lt0 hT.1 rfl 0 (by decide) kf_9 rfl dX1_fill_18 ?_
        refine lv_iload S.1 S.2.1 dX1_fill_21 (lv_at hl 7 rfl) ?_
        refine lv_iload S.1 S.2.1 dX1_fill_23 (lv_at hl 0 rfl) ?_
        refine o_iast S hG (j := i) hT.lt1 hT.2.1 (by omega) dX1_fill_25 (kk := fun H locs hG => ?_)
        obtain ⟨f_2, ef_2, hG⟩ := ov_name hG
        have hT := hT.upk ef_2
        have hO := hO.up ef_2 (by omega)
        refine lv_aload_n S.1 S.2.1 dX1_fill_26 rfl (lv_at hl 1 rfl) ?_
        refine o_get S hG i_X1 hT.lt0 hT.1 rfl 1 (by decide) kf_15 rfl dX1_fill_27 ?_
        refine lv_iload S.1 S.2.1 dX1_fill_30 (lv_at hl 7 rfl) ?_
        refine lv_iload S.1 S.2.1 dX1_fill_32 (lv_at hl 5 rfl) ?_
        refine lv_iload S.1 S.2.1 dX1_fill_34 (lv_at hl 0 rfl) ?_
        refine lv_imul S.1 S.2.1 dX1_fill_36 ?_
        refine lv_iload S.1 S.2.1 dX1_fill_37 (lv_at hl 6 rfl) ?_
        refine lv_iadd S.1 S.2.1 dX1_fill_39 ?_
        refine o_iast S hG (j := i) hT.lt2 hT.2.2.1 (by omega) dX1_fill_40 (kk := fun H locs hG => ?_)
        obtain ⟨f_3, ef_3, hG⟩ := ov_name hG
        have hT := hT.upv ef_3
        have hO := hO.up ef_3 (by omega)
        refine lv_iinc (v := (nI (i + 1))) (lv' := [(6, .int (nI (i + 1))), (7, .int (first + (step * (nI i)))), (0, .ref (ad t)), (1, .int first), (2, .int step), (3, .int (nI q)), (4, .int times), (5, .int more)]) S.1 S.2.1 dX1_fill_41 hl (k := 7) rfl (nI_add i 1) (by decide) rfl (fun ls hl => ?_)
        refine lv_goto (tgt := 3) S.1 S.2.1 dX1_fill_44 (by decide) ?_
        exact ih_3 (i + 1) (upd kk i (first + (step * (nI i)))) (upd vv i ((times * (first + (step * (nI i)))) + more)) f_3 _ _ hT hO (by omega) (fill_s hk) (by omega) hG ls (lv_sub hl [2, 3, 4, 5, 6, 7, 0] rfl)
  exact L_3 _ 0 k v f _ _ hT hO (Nat.zero_le _) (fun j h => absurd h (Nat.not_lt_zero _)) (Nat.lt_succ_self _) hG ls (lv_sub hl [1, 2, 3, 4, 5, 6, 0] rfl)

set_option maxHeartbeats 4000000 in
set_option maxRecDepth 100000 in
theorem c_X1_copyFrom (l : Launch) (G : Gx) (N : Nat) (ad : Nat → Nat) (s0 : Nat) (f : Nat → va_E) (t n : Nat) (k v : Nat → Int32) (o n2 : Nat) (k2 v2 : Nat → Int32) (hT : TB G N ad f t n k v) (hU : TB G N ad f o n2 k2 v2) (hap : t + 2 < o ∨ o + 2 < t) : mV l yX1_copyFrom wsX1_copyFrom 1 80 0 0 [.ref (ad t), .ref (ad o)] G N ad s0 f (fun f' => ∃ k3 v3, TB G N ad f' t n2 k3 v3 ∧ Onl t f f' ∧ ∀ i, i < n2 → k3 i = k2 i ∧ v3 i = v2 i) := by
  refine ov_mV (cc := cX1_copyFrom) (maxL := 2) (by decide) rfl (Nat.le_of_ble_eq_true rfl) ?_
  intro p e s m below meth c av Q S ret hG ls hl
  have S : CallFix p m c cX1_copyFrom 2 s av wsX1_copyFrom RX1 := S
  have hl : lv_has ls 2 [(0, .ref (ad t)), (1, .ref (ad o))] := hl
  have i_X1 : ∀ w ∈ u_ws RX1 TX1 3, w ∈ wsX1_copyFrom := by decide +kernel
  have kf_9 := S.2.2.2.2 (.fieldLink RX1 9 "OrderedVersions$Table" "keys" "[I") (by decide +kernel)
  have kf_15 := S.2.2.2.2 (.fieldLink RX1 15 "OrderedVersions$Table" "values" "[I") (by decide +kernel)
  have kf_18 := S.2.2.2.2 (.fieldLink RX1 18 "OrderedVersions$Table" "count" "I") (by decide +kernel)
  have hTn := hT.2.2.2.1
  have hTN := hT.2.2.2.2
  have hUn := hU.2.2.2.1
  have hUN := hU.2.2.2.2
  have hO : Onl t f f := Onl.rf
  refine lv_aload_n S.1 S.2.1 dX1_copyFrom_0 rfl (lv_at hl 1 rfl) ?_
  refine o_get S hG i_X1 hU.lt0 hU.1 rfl 0 (by decide) kf_9 rfl dX1_copyFrom_1 ?_
  refine lv_iconst (v := (nI 0)) S.1 S.2.1 dX1_copyFrom_4 (by decide) ?_
  refine lv_aload_n S.1 S.2.1 dX1_copyFrom_5 rfl (lv_at hl 0 rfl) ?_
  refine o_get S hG i_X1 hT.lt0 hT.1 rfl 0 (by decide) kf_9 rfl dX1_copyFrom_6 ?_
  refine lv_iconst (v := (nI 0)) S.1 S.2.1 dX1_copyFrom_9 (by decide) ?_
  refine lv_aload_n S.1 S.2.1 dX1_copyFrom_10 rfl (lv_at hl 1 rfl) ?_
  refine o_get S hG i_X1 hU.lt0 hU.1 rfl 2 (by decide) kf_18 rfl dX1_copyFrom_11 ?_
  refine o_copyi S hG hl.1 (S.2.2.2.2 (.methodLink RX1 37 arraycopyName) (by decide +kernel)) (S.2.2.2.2 (.native arraycopyName) (by decide +kernel)) (S.2.2.2.2 (.static arraycopyName) (by decide +kernel)) (S.2.2.2.2 (.initialized "java/lang/System") (by decide +kernel)) (a := o + 1) (b := t + 1) (sp := 0) (dp := 0) (n := n2) hU.lt1 hT.lt1 hU.2.1 hT.2.1 (by omega) (by omega) (by decide) (by decide) (Nat.le_of_ble_eq_true rfl) (Nat.le_of_ble_eq_true rfl) dX1_copyFrom_14 (fun H locs hG => ?_)
  obtain ⟨f_1, ef_1, hG⟩ := ov_name hG
  have hT := hT.upk ef_1
  have hU := hU.ne ef_1 (by omega) (by omega) (by omega)
  have hO := hO.up ef_1 (by omega)
  refine lv_aload_n S.1 S.2.1 dX1_copyFrom_17 rfl (lv_at hl 1 rfl) ?_
  refine o_get S hG i_X1 hU.lt0 hU.1 rfl 1 (by decide) kf_15 rfl dX1_copyFrom_18 ?_
  refine lv_iconst (v := (nI 0)) S.1 S.2.1 dX1_copyFrom_21 (by decide) ?_
  refine lv_aload_n S.1 S.2.1 dX1_copyFrom_22 rfl (lv_at hl 0 rfl) ?_
  refine o_get S hG i_X1 hT.lt0 hT.1 rfl 1 (by decide) kf_15 rfl dX1_copyFrom_23 ?_
  refine lv_iconst (v := (nI 0)) S.1 S.2.1 dX1_copyFrom_26 (by decide) ?_
  refine lv_aload_n S.1 S.2.1 dX1_copyFrom_27 rfl (lv_at hl 1 rfl) ?_
  refine o_get S hG i_X1 hU.lt0 hU.1 rfl 2 (by decide) kf_18 rfl dX1_copyFrom_28 ?_
  refine o_copyi S hG hl.1 (S.2.2.2.2 (.methodLink RX1 37 arraycopyName) (by decide +kernel)) (S.2.2.2.2 (.native arraycopyName) (by decide +kernel)) (S.2.2.2.2 (.static arraycopyName) (by decide +kernel)) (S.2.2.2.2 (.initialized "java/lang/System") (by decide +kernel)) (a := o + 2) (b := t + 2) (sp := 0) (dp := 0) (n := n2) hU.lt2 hT.lt2 hU.2.2.1 hT.2.2.1 (by omega) (by omega) (by decide) (by decide) (Nat.le_of_ble_eq_true rfl) (Nat.le_of_ble_eq_true rfl) dX1_copyFrom_31 (fun H locs hG => ?_)
  obtain ⟨f_2, ef_2, hG⟩ := ov_name hG
  have hT := hT.upv ef_2
  have hU := hU.ne ef_2 (by omega) (by omega) (by omega)
  have hO := hO.up ef_2 (by omega)
  refine lv_aload_n S.1 S.2.1 dX1_copyFrom_34 rfl (lv_at hl 0 rfl) ?_
  refine lv_aload_n S.1 S.2.1 dX1_copyFrom_35 rfl (lv_at hl 1 rfl) ?_
  refine o_get S hG i_X1 hU.lt0 hU.1 rfl 2 (by decide) kf_18 rfl dX1_copyFrom_36 ?_
  refine o_put S hG i_X1 tyX1_ok nmX1 hT.lt0 hT.1 rfl 2 (by decide) kf_18 rfl rfl rfl (Nat.le_of_ble_eq_true rfl) dX1_copyFrom_39 (fun H locs hG => ?_)
  obtain ⟨f_3, ef_3, hG⟩ := ov_name hG
  have hT := hT.upn ef_3 (n2 := n2) (by omega)
  have hU := hU.ne ef_3 (by omega) (by omega) (by omega)
  have hO := hO.up ef_3 (by omega)
  exact ret _ _ _ _ _ _ _ hG ⟨_, _, hT, hO, fun i hi => ⟨cpy_0 hi, cpy_0 hi⟩⟩ (Nat.le_of_ble_eq_true rfl) (Nat.le_of_ble_eq_true rfl) dX1_copyFrom_42

theorem ha_lt {n a : Nat} {k : Nat → Int32} {x : Int32} (hn : n ≤ 600) (hl : a ≤ n) (h : ha n k (nI a) x = true) : a < 600 := by
  rw [ha_nI (by omega)] at h
  have := (of_decide_eq_true h).1
  omega
theorem sh_t {n2 : Nat} {k2 v2 k v : Nat → Int32} {al : Bool} {i a : Nat} (hb : bel n2 k2 (k i) = a) (hn : n2 ≤ 600) (h : ha n2 k2 (nI a) (k i) = true) (h2 : al = false ∨ v2 a = v i) : sh n2 k2 v2 al k v i = true := by
  subst hb
  rw [ha_bel hn] at h
  simp only [sh, h, Bool.true_and, Bool.or_eq_true, decide_eq_true_eq]
  rcases h2 with h2 | h2
  · left; rw [h2]; rfl
  · right; exact h2
theorem sh_f1 {n2 : Nat} {k2 v2 k v : Nat → Int32} {al : Bool} {i a : Nat} (hb : bel n2 k2 (k i) = a) (hn : n2 ≤ 600) (h : ha n2 k2 (nI a) (k i) = false) : sh n2 k2 v2 al k v i = false := by
  subst hb
  rw [ha_bel hn] at h
  simp only [sh, h, Bool.false_and]
theorem sh_f2 {n2 : Nat} {k2 v2 k v : Nat → Int32} {al : Bool} {i a : Nat} (hb : bel n2 k2 (k i) = a) (h : al = true) (h2 : ¬ v2 a = v i) : sh n2 k2 v2 al k v i = false := by
  subst hb
  simp only [sh, h, h2, Bool.not_true, Bool.false_or, decide_false, Bool.and_false]

set_option maxHeartbeats 4000000 in
set_option maxRecDepth 100000 in
theorem c_X1_countShared (l : Launch) (G : Gx) (N : Nat) (ad : Nat → Nat) (s0 : Nat) (f : Nat → va_E) (t n : Nat) (k v : Nat → Int32) (o n2 : Nat) (k2 v2 : Nat → Int32) (al : Bool) (hT : TB G N ad f t n k v) (hU : TB G N ad f o n2 k2 v2) (hS : Srt n k) : mI l yX1_countShared wsX1_countShared 2 43 0 0 [.ref (ad t), .ref (ad o), .int (bI al)] G N ad s0 f (fun r f' => f = f' ∧ r = nI (cnt n (sh n2 k2 v2 al k v))) := by
  refine ov_mI (cc := cX1_countShared) (maxL := 6) (ty := .int) (by decide) rfl (Nat.le_of_ble_eq_true rfl) ?_
  intro p e s m below meth c av Q S ret hG ls hl
  have S : CallFix p m c cX1_countShared 6 s av wsX1_countShared RX1 := S
  have hl : lv_has ls 6 [(0, .ref (ad t)), (1, .ref (ad o)), (2, .int (bI al))] := hl
  have i_X1 : ∀ w ∈ u_ws RX1 TX1 3, w ∈ wsX1_countShared := by decide +kernel
  have kf_9 := S.2.2.2.2 (.fieldLink RX1 9 "OrderedVersions$Table" "keys" "[I") (by decide +kernel)
  have kf_15 := S.2.2.2.2 (.fieldLink RX1 15 "OrderedVersions$Table" "values" "[I") (by decide +kernel)
  have kf_18 := S.2.2.2.2 (.fieldLink RX1 18 "OrderedVersions$Table" "count" "I") (by decide +kernel)
  have hTn := hT.2.2.2.1
  have hTN := hT.2.2.2.2
  have hUn := hU.2.2.2.1
  have hUN := hU.2.2.2.2
  refine lv_iconst (v := (nI 0)) S.1 S.2.1 dX1_countShared_0 (by decide) ?_
  refine lv_istore_n (lv' := [(3, .int (nI 0)), (0, .ref (ad t)), (1, .ref (ad o)), (2, .int (bI al))]) S.1 S.2.1 dX1_countShared_1 rfl hl (by decide) rfl (fun ls hl => ?_)
  refine lv_iconst (v := (nI 0)) S.1 S.2.1 dX1_countShared_2 (by decide) ?_
  refine lv_istore (lv' := [(4, .int (nI 0)), (3, .int (nI 0)), (0, .ref (ad t)), (1, .ref (ad o)), (2, .int (bI al))]) S.1 S.2.1 dX1_countShared_3 hl (by decide) rfl (fun ls hl => ?_)
  refine lv_iconst (v := (nI 0)) S.1 S.2.1 dX1_countShared_5 (by decide) ?_
  refine lv_istore (lv' := [(5, .int (nI 0)), (4, .int (nI 0)), (3, .int (nI 0)), (0, .ref (ad t)), (1, .ref (ad o)), (2, .int (bI al))]) S.1 S.2.1 dX1_countShared_6 hl (by decide) rfl (fun ls hl => ?_)
  have L_8 : ∀ (d9 : Nat) (c0 : Nat) (a : Nat) (i : Nat) (H : Heap) (locs : List Loc), (i ≤ n) → (a ≤ n2) → (∀ j, j < a → ∀ z, i ≤ z → z < n → k2 j < k z) → (c0 = cnt i (sh n2 k2 v2 al k v)) → (n - i) < d9 → ov_dy G N ad s0 s f H locs → ∀ ls : Array Slot, lv_has ls 6 [(0, .ref (ad t)), (1, .ref (ad o)), (2, .int (bI al)), (3, .int (nI c0)), (4, .int (nI a)), (5, .int (nI i))] → W p l e (ov_rm 2 43 0 0) s m av below meth c H locs 0 0 Q (F0 m 8 ls []) := by
    intro d9
    induction d9 with
    | zero => intro c0 a i H locs hi hla hlo hc h9; exact absurd h9 (Nat.not_lt_zero _)
    | succ d9 ih_8 =>
      intro c0 a i H locs hi hla hlo hc h9 hG ls hl
      refine lv_iload S.1 S.2.1 dX1_countShared_8 (lv_at hl 5 rfl) ?_
      refine lv_aload_n S.1 S.2.1 dX1_countShared_10 rfl (lv_at hl 0 rfl) ?_
      refine o_get S hG i_X1 hT.lt0 hT.1 rfl 2 (by decide) kf_18 rfl dX1_countShared_11 ?_
      refine n_ge S (a := i) (b := n) (tgt := 95) dX1_countShared_14 (by decide) (by omega) (by omega) (fun c_14 => ?_) (fun c_14 => ?_)
      · skip
        refine lv_iload_n S.1 S.2.1 dX1_countShared_95 rfl (lv_at hl 3 rfl) ?_
        exact ret _ _ _ _ _ _ _ _ hG ⟨rfl, by rw [hc, show i = n by omega]⟩ rfl (Nat.le_of_ble_eq_true rfl) (Nat.le_of_ble_eq_true rfl) dX1_countShared_96
      · skip
        have L_17 : ∀ (d9 : Nat) (a : Nat) (H : Heap) (locs : List Loc), (a ≤ n2) → (∀ j, j < a → k2 j < k i) → (n2 - a) < d9 → ov_dy G N ad s0 s f H locs → ∀ ls : Array Slot, lv_has ls 6 [(0, .ref (ad t)), (1, .ref (ad o)), (2, .int (bI al)), (3, .int (nI c0)), (4, .int (nI a)), (5, .int (nI i))] → W p l e (ov_rm 2 43 0 0) s m av below meth c H locs 0 0 Q (F0 m 17 ls []) := by
          intro d9
          induction d9 with
          | zero => intro a H locs hla hlo h9; exact absurd h9 (Nat.not_lt_zero _)
          | succ d9 ih_17 =>
            intro a H locs hla hlo h9 hG ls hl
            refine lv_iload S.1 S.2.1 dX1_countShared_17 (lv_at hl 4 rfl) ?_
            refine lv_aload_n S.1 S.2.1 dX1_countShared_19 rfl (lv_at hl 1 rfl) ?_
            refine o_get S hG i_X1 hU.lt0 hU.1 rfl 2 (by decide) kf_18 rfl dX1_countShared_20 ?_
            refine n_ge S (a := a) (b := n2) (tgt := 49) dX1_countShared_23 (by decide) (by omega) (by omega) (fun c_23 => ?_) (fun c_23 => ?_)
            · skip
              have hbb : bel n2 k2 (k i) = a := bel_eq n2 k2 (k i) a hla hlo (fun h => absurd h (by omega))
              refine lv_aload_n S.1 S.2.1 dX1_countShared_49 rfl (lv_at hl 1 rfl) ?_
              refine lv_iload S.1 S.2.1 dX1_countShared_50 (lv_at hl 4 rfl) ?_
              refine lv_aload_n S.1 S.2.1 dX1_countShared_52 rfl (lv_at hl 0 rfl) ?_
              refine o_get S hG i_X1 hT.lt0 hT.1 rfl 0 (by decide) kf_9 rfl dX1_countShared_53 ?_
              refine lv_iload S.1 S.2.1 dX1_countShared_56 (lv_at hl 5 rfl) ?_
              refine o_iald S hG (j := i) hT.lt1 hT.2.1 (by omega) dX1_countShared_58 (kk := ?_)
              refine o_cVi S (rest := []) (c_X1_hasAt l G N ad s0 f o n2 k2 v2 (nI a) (k i) hU) (cwV 2 S.2.2.2.2 gX1_countShared_X1_hasAt rfl rfl rfl (by decide +kernel) ⟨(Nat.le_of_ble_eq_true rfl), (Nat.le_of_ble_eq_true rfl)⟩) hG hU.lt0 hU.1 rfl rfl hl.1 rfl (Nat.le_of_ble_eq_true rfl) dX1_countShared_59 ⟨(Nat.le_of_ble_eq_true rfl), (Nat.le_of_ble_eq_true rfl)⟩ (fun r9 f9 H locs hp hG => ?_)
              obtain ⟨rfl, rfl⟩ := hp
              refine b_if_eq S (b := (ha n2 k2 (nI a) (k i))) (tgt := 89) dX1_countShared_62 (by decide) (fun c_62 => ?_) (fun c_62 => ?_)
              · skip
                refine lv_iinc (v := (nI (i + 1))) (lv' := [(5, .int (nI (i + 1))), (0, .ref (ad t)), (1, .ref (ad o)), (2, .int (bI al)), (3, .int (nI c0)), (4, .int (nI a))]) S.1 S.2.1 dX1_countShared_89 hl (k := 5) rfl (nI_add i 1) (by decide) rfl (fun ls hl => ?_)
                refine lv_goto (tgt := 8) S.1 S.2.1 dX1_countShared_92 (by decide) ?_
                exact ih_8 c0 a (i + 1) _ _ (by omega) hla (fun j h z h1 h2 => i32_tr (hlo j h) (hS i z (by omega) h2)) (by rw [hc, cnt_f (sh_f1 hbb hUn c_62)]) (by omega) hG ls (lv_sub hl [1, 2, 3, 4, 5, 0] rfl)
              · skip
                refine lv_iload_n S.1 S.2.1 dX1_countShared_65 rfl (lv_at hl 2 rfl) ?_
                refine b_if_eq S (b := al) (tgt := 86) dX1_countShared_66 (by decide) (fun c_66 => ?_) (fun c_66 => ?_)
                · skip
                  refine lv_iinc (v := (nI (c0 + 1))) (lv' := [(3, .int (nI (c0 + 1))), (0, .ref (ad t)), (1, .ref (ad o)), (2, .int (bI al)), (4, .int (nI a)), (5, .int (nI i))]) S.1 S.2.1 dX1_countShared_86 hl (k := 3) rfl (nI_add c0 1) (by decide) rfl (fun ls hl => ?_)
                  refine lv_iinc (v := (nI (i + 1))) (lv' := [(5, .int (nI (i + 1))), (3, .int (nI (c0 + 1))), (0, .ref (ad t)), (1, .ref (ad o)), (2, .int (bI al)), (4, .int (nI a))]) S.1 S.2.1 dX1_countShared_89 hl (k := 5) rfl (nI_add i 1) (by decide) rfl (fun ls hl => ?_)
                  refine lv_goto (tgt := 8) S.1 S.2.1 dX1_countShared_92 (by decide) ?_
                  exact ih_8 (c0 + 1) a (i + 1) _ _ (by omega) hla (fun j h z h1 h2 => i32_tr (hlo j h) (hS i z (by omega) h2)) (by rw [hc, cnt_t (sh_t hbb hUn c_62 (Or.inl c_66))]) (by omega) hG ls (lv_sub hl [2, 3, 4, 1, 5, 0] rfl)
                · skip
                  refine lv_aload_n S.1 S.2.1 dX1_countShared_69 rfl (lv_at hl 1 rfl) ?_
                  refine o_get S hG i_X1 hU.lt0 hU.1 rfl 1 (by decide) kf_15 rfl dX1_countShared_70 ?_
                  refine lv_iload S.1 S.2.1 dX1_countShared_73 (lv_at hl 4 rfl) ?_
                  refine o_iald S hG (j := a) hU.lt2 hU.2.2.1 (ha_lt hUn hla c_62) dX1_countShared_75 (kk := ?_)
                  refine lv_aload_n S.1 S.2.1 dX1_countShared_76 rfl (lv_at hl 0 rfl) ?_
                  refine o_get S hG i_X1 hT.lt0 hT.1 rfl 1 (by decide) kf_15 rfl dX1_countShared_77 ?_
                  refine lv_iload S.1 S.2.1 dX1_countShared_80 (lv_at hl 5 rfl) ?_
                  refine o_iald S hG (j := i) hT.lt2 hT.2.2.1 (by omega) dX1_countShared_82 (kk := ?_)
                  refine lv_icmp_ne (tgt := 89) S.1 S.2.1 dX1_countShared_83 (by decide) (fun c_83 => ?_) (fun c_83 => ?_)
                  · skip
                    refine lv_iinc (v := (nI (i + 1))) (lv' := [(5, .int (nI (i + 1))), (0, .ref (ad t)), (1, .ref (ad o)), (2, .int (bI al)), (3, .int (nI c0)), (4, .int (nI a))]) S.1 S.2.1 dX1_countShared_89 hl (k := 5) rfl (nI_add i 1) (by decide) rfl (fun ls hl => ?_)
                    refine lv_goto (tgt := 8) S.1 S.2.1 dX1_countShared_92 (by decide) ?_
                    exact ih_8 c0 a (i + 1) _ _ (by omega) hla (fun j h z h1 h2 => i32_tr (hlo j h) (hS i z (by omega) h2)) (by rw [hc, cnt_f (sh_f2 hbb c_66 c_83)]) (by omega) hG ls (lv_sub hl [1, 2, 3, 4, 5, 0] rfl)
                  · skip
                    refine lv_iinc (v := (nI (c0 + 1))) (lv' := [(3, .int (nI (c0 + 1))), (0, .ref (ad t)), (1, .ref (ad o)), (2, .int (bI al)), (4, .int (nI a)), (5, .int (nI i))]) S.1 S.2.1 dX1_countShared_86 hl (k := 3) rfl (nI_add c0 1) (by decide) rfl (fun ls hl => ?_)
                    refine lv_iinc (v := (nI (i + 1))) (lv' := [(5, .int (nI (i + 1))), (3, .int (nI (c0 + 1))), (0, .ref (ad t)), (1, .ref (ad o)), (2, .int (bI al)), (4, .int (nI a))]) S.1 S.2.1 dX1_countShared_89 hl (k := 5) rfl (nI_add i 1) (by decide) rfl (fun ls hl => ?_)
                    refine lv_goto (tgt := 8) S.1 S.2.1 dX1_countShared_92 (by decide) ?_
                    exact ih_8 (c0 + 1) a (i + 1) _ _ (by omega) hla (fun j h z h1 h2 => i32_tr (hlo j h) (hS i z (by omega) h2)) (by rw [hc, cnt_t (sh_t hbb hUn c_62 (Or.inr c_83))]) (by omega) hG ls (lv_sub hl [2, 3, 4, 1, 5, 0] rfl)
            · skip
              refine lv_aload_n S.1 S.2.1 dX1_countShared_26 rfl (lv_at hl 1 rfl) ?_
              refine o_get S hG i_X1 hU.lt0 hU.1 rfl 0 (by decide) kf_9 rfl dX1_countShared_27 ?_
              refine lv_iload S.1 S.2.1 dX1_countShared_30 (lv_at hl 4 rfl) ?_
              refine o_iald S hG (j := a) hU.lt1 hU.2.1 (by omega) dX1_countShared_32 (kk := ?_)
              refine lv_aload_n S.1 S.2.1 dX1_countShared_33 rfl (lv_at hl 0 rfl) ?_
              refine o_get S hG i_X1 hT.lt0 hT.1 rfl 0 (by decide) kf_9 rfl dX1_countShared_34 ?_
              refine lv_iload S.1 S.2.1 dX1_countShared_37 (lv_at hl 5 rfl) ?_
              refine o_iald S hG (j := i) hT.lt1 hT.2.1 (by omega) dX1_countShared_39 (kk := ?_)
              refine lv_icmp_ge (tgt := 49) S.1 S.2.1 dX1_countShared_40 (by decide) (fun c_40 => ?_) (fun c_40 => ?_)
              · skip
                have hbb : bel n2 k2 (k i) = a := bel_eq n2 k2 (k i) a hla hlo (fun _ => i32_nlt c_40)
                refine lv_aload_n S.1 S.2.1 dX1_countShared_49 rfl (lv_at hl 1 rfl) ?_
                refine lv_iload S.1 S.2.1 dX1_countShared_50 (lv_at hl 4 rfl) ?_
                refine lv_aload_n S.1 S.2.1 dX1_countShared_52 rfl (lv_at hl 0 rfl) ?_
                refine o_get S hG i_X1 hT.lt0 hT.1 rfl 0 (by decide) kf_9 rfl dX1_countShared_53 ?_
                refine lv_iload S.1 S.2.1 dX1_countShared_56 (lv_at hl 5 rfl) ?_
                refine o_iald S hG (j := i) hT.lt1 hT.2.1 (by omega) dX1_countShared_58 (kk := ?_)
                refine o_cVi S (rest := []) (c_X1_hasAt l G N ad s0 f o n2 k2 v2 (nI a) (k i) hU) (cwV 2 S.2.2.2.2 gX1_countShared_X1_hasAt rfl rfl rfl (by decide +kernel) ⟨(Nat.le_of_ble_eq_true rfl), (Nat.le_of_ble_eq_true rfl)⟩) hG hU.lt0 hU.1 rfl rfl hl.1 rfl (Nat.le_of_ble_eq_true rfl) dX1_countShared_59 ⟨(Nat.le_of_ble_eq_true rfl), (Nat.le_of_ble_eq_true rfl)⟩ (fun r9 f9 H locs hp hG => ?_)
                obtain ⟨rfl, rfl⟩ := hp
                refine b_if_eq S (b := (ha n2 k2 (nI a) (k i))) (tgt := 89) dX1_countShared_62 (by decide) (fun c_62 => ?_) (fun c_62 => ?_)
                · skip
                  refine lv_iinc (v := (nI (i + 1))) (lv' := [(5, .int (nI (i + 1))), (0, .ref (ad t)), (1, .ref (ad o)), (2, .int (bI al)), (3, .int (nI c0)), (4, .int (nI a))]) S.1 S.2.1 dX1_countShared_89 hl (k := 5) rfl (nI_add i 1) (by decide) rfl (fun ls hl => ?_)
                  refine lv_goto (tgt := 8) S.1 S.2.1 dX1_countShared_92 (by decide) ?_
                  exact ih_8 c0 a (i + 1) _ _ (by omega) hla (fun j h z h1 h2 => i32_tr (hlo j h) (hS i z (by omega) h2)) (by rw [hc, cnt_f (sh_f1 hbb hUn c_62)]) (by omega) hG ls (lv_sub hl [1, 2, 3, 4, 5, 0] rfl)
                · skip
                  refine lv_iload_n S.1 S.2.1 dX1_countShared_65 rfl (lv_at hl 2 rfl) ?_
                  refine b_if_eq S (b := al) (tgt := 86) dX1_countShared_66 (by decide) (fun c_66 => ?_) (fun c_66 => ?_)
                  · skip
                    refine lv_iinc (v := (nI (c0 + 1))) (lv' := [(3, .int (nI (c0 + 1))), (0, .ref (ad t)), (1, .ref (ad o)), (2, .int (bI al)), (4, .int (nI a)), (5, .int (nI i))]) S.1 S.2.1 dX1_countShared_86 hl (k := 3) rfl (nI_add c0 1) (by decide) rfl (fun ls hl => ?_)
                    refine lv_iinc (v := (nI (i + 1))) (lv' := [(5, .int (nI (i + 1))), (3, .int (nI (c0 + 1))), (0, .ref (ad t)), (1, .ref (ad o)), (2, .int (bI al)), (4, .int (nI a))]) S.1 S.2.1 dX1_countShared_89 hl (k := 5) rfl (nI_add i 1) (by decide) rfl (fun ls hl => ?_)
                    refine lv_goto (tgt := 8) S.1 S.2.1 dX1_countShared_92 (by decide) ?_
                    exact ih_8 (c0 + 1) a (i + 1) _ _ (by omega) hla (fun j h z h1 h2 => i32_tr (hlo j h) (hS i z (by omega) h2)) (by rw [hc, cnt_t (sh_t hbb hUn c_62 (Or.inl c_66))]) (by omega) hG ls (lv_sub hl [2, 3, 4, 1, 5, 0] rfl)
                  · skip
                    refine lv_aload_n S.1 S.2.1 dX1_countShared_69 rfl (lv_at hl 1 rfl) ?_
                    refine o_get S hG i_X1 hU.lt0 hU.1 rfl 1 (by decide) kf_15 rfl dX1_countShared_70 ?_
                    refine lv_iload S.1 S.2.1 dX1_countShared_73 (lv_at hl 4 rfl) ?_
                    refine o_iald S hG (j := a) hU.lt2 hU.2.2.1 (ha_lt hUn hla c_62) dX1_countShared_75 (kk := ?_)
                    refine lv_aload_n S.1 S.2.1 dX1_countShared_76 rfl (lv_at hl 0 rfl) ?_
                    refine o_get S hG i_X1 hT.lt0 hT.1 rfl 1 (by decide) kf_15 rfl dX1_countShared_77 ?_
                    refine lv_iload S.1 S.2.1 dX1_countShared_80 (lv_at hl 5 rfl) ?_
                    refine o_iald S hG (j := i) hT.lt2 hT.2.2.1 (by omega) dX1_countShared_82 (kk := ?_)
                    refine lv_icmp_ne (tgt := 89) S.1 S.2.1 dX1_countShared_83 (by decide) (fun c_83 => ?_) (fun c_83 => ?_)
                    · skip
                      refine lv_iinc (v := (nI (i + 1))) (lv' := [(5, .int (nI (i + 1))), (0, .ref (ad t)), (1, .ref (ad o)), (2, .int (bI al)), (3, .int (nI c0)), (4, .int (nI a))]) S.1 S.2.1 dX1_countShared_89 hl (k := 5) rfl (nI_add i 1) (by decide) rfl (fun ls hl => ?_)
                      refine lv_goto (tgt := 8) S.1 S.2.1 dX1_countShared_92 (by decide) ?_
                      exact ih_8 c0 a (i + 1) _ _ (by omega) hla (fun j h z h1 h2 => i32_tr (hlo j h) (hS i z (by omega) h2)) (by rw [hc, cnt_f (sh_f2 hbb c_66 c_83)]) (by omega) hG ls (lv_sub hl [1, 2, 3, 4, 5, 0] rfl)
                    · skip
                      refine lv_iinc (v := (nI (c0 + 1))) (lv' := [(3, .int (nI (c0 + 1))), (0, .ref (ad t)), (1, .ref (ad o)), (2, .int (bI al)), (4, .int (nI a)), (5, .int (nI i))]) S.1 S.2.1 dX1_countShared_86 hl (k := 3) rfl (nI_add c0 1) (by decide) rfl (fun ls hl => ?_)
                      refine lv_iinc (v := (nI (i + 1))) (lv' := [(5, .int (nI (i + 1))), (3, .int (nI (c0 + 1))), (0, .ref (ad t)), (1, .ref (ad o)), (2, .int (bI al)), (4, .int (nI a))]) S.1 S.2.1 dX1_countShared_89 hl (k := 5) rfl (nI_add i 1) (by decide) rfl (fun ls hl => ?_)
                      refine lv_goto (tgt := 8) S.1 S.2.1 dX1_countShared_92 (by decide) ?_
                      exact ih_8 (c0 + 1) a (i + 1) _ _ (by omega) hla (fun j h z h1 h2 => i32_tr (hlo j h) (hS i z (by omega) h2)) (by rw [hc, cnt_t (sh_t hbb hUn c_62 (Or.inr c_83))]) (by omega) hG ls (lv_sub hl [2, 3, 4, 1, 5, 0] rfl)
              · skip
                refine lv_iinc (v := (nI (a + 1))) (lv' := [(4, .int (nI (a + 1))), (0, .ref (ad t)), (1, .ref (ad o)), (2, .int (bI al)), (3, .int (nI c0)), (5, .int (nI i))]) S.1 S.2.1 dX1_countShared_43 hl (k := 4) rfl (nI_add a 1) (by decide) rfl (fun ls hl => ?_)
                refine lv_goto (tgt := 17) S.1 S.2.1 dX1_countShared_46 (by decide) ?_
                exact ih_17 (a + 1) _ _ (by omega) (lt_s hlo (i32_of_nle c_40)) (by omega) hG ls (lv_sub hl [1, 2, 3, 4, 0, 5] rfl)
        exact L_17 _ a _ _ hla (fun j h => hlo j h i (Nat.le_refl _) (by omega)) (Nat.lt_succ_self _) hG ls (lv_sub hl [0, 1, 2, 3, 4, 5] rfl)
  exact L_8 _ 0 0 0 _ _ (Nat.zero_le _) (Nat.zero_le _) (fun j h => absurd h (Nat.not_lt_zero _)) rfl (Nat.lt_succ_self _) hG ls (lv_sub hl [3, 4, 5, 2, 1, 0] rfl)

set_option maxHeartbeats 4000000 in
set_option maxRecDepth 100000 in
theorem c_X1_countAlikeAtStart (l : Launch) (G : Gx) (N : Nat) (ad : Nat → Nat) (s0 : Nat) (f : Nat → va_E) (t n : Nat) (k v : Nat → Int32) (o n2 : Nat) (k2 v2 : Nat → Int32) (hT : TB G N ad f t n k v) (hU : TB G N ad f o n2 k2 v2) : mI l yX1_countAlikeAtStart wsX1_countAlikeAtStart 1 40 0 0 [.ref (ad t), .ref (ad o)] G N ad s0 f (fun r f' => f = f' ∧ ∃ i, r = nI i ∧ i ≤ n ∧ i ≤ n2 ∧ (∀ j, j < i → k j = k2 j ∧ v j = v2 j) ∧ (i < n → i < n2 → ¬ (k i = k2 i ∧ v i = v2 i))) := by
  refine ov_mI (cc := cX1_countAlikeAtStart) (maxL := 4) (ty := .int) (by decide) rfl (Nat.le_of_ble_eq_true rfl) ?_
  intro p e s m below meth c av Q S ret hG ls hl
  have S : CallFix p m c cX1_countAlikeAtStart 4 s av wsX1_countAlikeAtStart RX1 := S
  have hl : lv_has ls 4 [(0, .ref (ad t)), (1, .ref (ad o))] := hl
  have i_X1 : ∀ w ∈ u_ws RX1 TX1 3, w ∈ wsX1_countAlikeAtStart := by decide +kernel
  have kf_9 := S.2.2.2.2 (.fieldLink RX1 9 "OrderedVersions$Table" "keys" "[I") (by decide +kernel)
  have kf_15 := S.2.2.2.2 (.fieldLink RX1 15 "OrderedVersions$Table" "values" "[I") (by decide +kernel)
  have kf_18 := S.2.2.2.2 (.fieldLink RX1 18 "OrderedVersions$Table" "count" "I") (by decide +kernel)
  have hTn := hT.2.2.2.1
  have hTN := hT.2.2.2.2
  have hUn := hU.2.2.2.1
  have hUN := hU.2.2.2.2
  refine lv_aload_n S.1 S.2.1 dX1_countAlikeAtStart_0 rfl (lv_at hl 0 rfl) ?_
  refine o_get S hG i_X1 hT.lt0 hT.1 rfl 2 (by decide) kf_18 rfl dX1_countAlikeAtStart_1 ?_
  refine lv_aload_n S.1 S.2.1 dX1_countAlikeAtStart_4 rfl (lv_at hl 1 rfl) ?_
  refine o_get S hG i_X1 hU.lt0 hU.1 rfl 2 (by decide) kf_18 rfl dX1_countAlikeAtStart_5 ?_
  refine va_mmin S.1 S.2.1 (S.2.2.1.trans hl.1.symm) S.2.2.2.1 (S.2.2.2.2 (.methodLink RX1 43 Lib.Math.min.name) (by decide +kernel)) (S.2.2.2.2 (.static Lib.Math.min.name) (by decide +kernel)) (S.2.2.2.2 (.initialized "java/lang/Math") (by decide +kernel)) (S.2.2.2.2 (.code Lib.Math.min.name Lib.Math.min.code 2 (some .int)) (by decide +kernel)) (Nat.le_of_ble_eq_true rfl) (Nat.le_of_ble_eq_true rfl) (Nat.le_of_ble_eq_true rfl) (Nat.le_of_ble_eq_true rfl) dX1_countAlikeAtStart_8 ?_
  refine o_top (nI_min (by omega) (by omega)) ?_
  refine lv_istore_n (lv' := [(2, .int (nI (min n n2))), (0, .ref (ad t)), (1, .ref (ad o))]) S.1 S.2.1 dX1_countAlikeAtStart_11 rfl hl (by decide) rfl (fun ls hl => ?_)
  refine lv_iconst (v := (nI 0)) S.1 S.2.1 dX1_countAlikeAtStart_12 (by decide) ?_
  refine lv_istore_n (lv' := [(3, .int (nI 0)), (2, .int (nI (min n n2))), (0, .ref (ad t)), (1, .ref (ad o))]) S.1 S.2.1 dX1_countAlikeAtStart_13 rfl hl (by decide) rfl (fun ls hl => ?_)
  have L_14 : ∀ (d9 : Nat) (i : Nat) (H : Heap) (locs : List Loc), (i ≤ min n n2) → (∀ j, j < i → k j = k2 j ∧ v j = v2 j) → (min n n2 - i) < d9 → ov_dy G N ad s0 s f H locs → ∀ ls : Array Slot, lv_has ls 4 [(0, .ref (ad t)), (1, .ref (ad o)), (2, .int (nI (min n n2))), (3, .int (nI i))] → W p l e (ov_rm 1 40 0 0) s m av below meth c H locs 0 0 Q (F0 m 14 ls []) := by
    intro d9
    induction d9 with
    | zero => intro i H locs hi hk h9; exact absurd h9 (Nat.not_lt_zero _)
    | succ d9 ih_14 =>
      intro i H locs hi hk h9 hG ls hl
      refine lv_iload_n S.1 S.2.1 dX1_countAlikeAtStart_14 rfl (lv_at hl 3 rfl) ?_
      refine lv_iload_n S.1 S.2.1 dX1_countAlikeAtStart_15 rfl (lv_at hl 2 rfl) ?_
      refine n_ge S (a := i) (b := min n n2) (tgt := 55) dX1_countAlikeAtStart_16 (by decide) (by omega) (by omega) (fun c_16 => ?_) (fun c_16 => ?_)
      · skip
        refine lv_iload_n S.1 S.2.1 dX1_countAlikeAtStart_55 rfl (lv_at hl 3 rfl) ?_
        exact ret _ _ _ _ _ _ _ _ hG ⟨rfl, i, rfl, by omega, by omega, hk, fun h1 h2 => absurd h1 (by omega)⟩ rfl (Nat.le_of_ble_eq_true rfl) (Nat.le_of_ble_eq_true rfl) dX1_countAlikeAtStart_56
      · skip
        refine lv_aload_n S.1 S.2.1 dX1_countAlikeAtStart_19 rfl (lv_at hl 0 rfl) ?_
        refine o_get S hG i_X1 hT.lt0 hT.1 rfl 0 (by decide) kf_9 rfl dX1_countAlikeAtStart_20 ?_
        refine lv_iload_n S.1 S.2.1 dX1_countAlikeAtStart_23 rfl (lv_at hl 3 rfl) ?_
        refine o_iald S hG (j := i) hT.lt1 hT.2.1 (by omega) dX1_countAlikeAtStart_24 (kk := ?_)
        refine lv_aload_n S.1 S.2.1 dX1_countAlikeAtStart_25 rfl (lv_at hl 1 rfl) ?_
        refine o_get S hG i_X1 hU.lt0 hU.1 rfl 0 (by decide) kf_9 rfl dX1_countAlikeAtStart_26 ?_
        refine lv_iload_n S.1 S.2.1 dX1_countAlikeAtStart_29 rfl (lv_at hl 3 rfl) ?_
        refine o_iald S hG (j := i) hU.lt1 hU.2.1 (by omega) dX1_countAlikeAtStart_30 (kk := ?_)
        refine lv_icmp_ne (tgt := 55) S.1 S.2.1 dX1_countAlikeAtStart_31 (by decide) (fun c_31 => ?_) (fun c_31 => ?_)
        · skip
          refine lv_iload_n S.1 S.2.1 dX1_countAlikeAtStart_55 rfl (lv_at hl 3 rfl) ?_
          exact ret _ _ _ _ _ _ _ _ hG ⟨rfl, i, rfl, by omega, by omega, hk, fun _ _ h => absurd h.1 c_31⟩ rfl (Nat.le_of_ble_eq_true rfl) (Nat.le_of_ble_eq_true rfl) dX1_countAlikeAtStart_56
        · skip
          refine lv_aload_n S.1 S.2.1 dX1_countAlikeAtStart_34 rfl (lv_at hl 0 rfl) ?_
          refine o_get S hG i_X1 hT.lt0 hT.1 rfl 1 (by decide) kf_15 rfl dX1_countAlikeAtStart_35 ?_
          refine lv_iload_n S.1 S.2.1 dX1_countAlikeAtStart_38 rfl (lv_at hl 3 rfl) ?_
          refine o_iald S hG (j := i) hT.lt2 hT.2.2.1 (by omega) dX1_countAlikeAtStart_39 (kk := ?_)
          refine lv_aload_n S.1 S.2.1 dX1_countAlikeAtStart_40 rfl (lv_at hl 1 rfl) ?_
          refine o_get S hG i_X1 hU.lt0 hU.1 rfl 1 (by decide) kf_15 rfl dX1_countAlikeAtStart_41 ?_
          refine lv_iload_n S.1 S.2.1 dX1_countAlikeAtStart_44 rfl (lv_at hl 3 rfl) ?_
          refine o_iald S hG (j := i) hU.lt2 hU.2.2.1 (by omega) dX1_countAlikeAtStart_45 (kk := ?_)
          refine lv_icmp_ne (tgt := 55) S.1 S.2.1 dX1_countAlikeAtStart_46 (by decide) (fun c_46 => ?_) (fun c_46 => ?_)
          · skip
            refine lv_iload_n S.1 S.2.1 dX1_countAlikeAtStart_55 rfl (lv_at hl 3 rfl) ?_
            exact ret _ _ _ _ _ _ _ _ hG ⟨rfl, i, rfl, by omega, by omega, hk, fun _ _ h => absurd h.2 c_46⟩ rfl (Nat.le_of_ble_eq_true rfl) (Nat.le_of_ble_eq_true rfl) dX1_countAlikeAtStart_56
          · skip
            refine lv_iinc (v := (nI (i + 1))) (lv' := [(3, .int (nI (i + 1))), (0, .ref (ad t)), (1, .ref (ad o)), (2, .int (nI (min n n2)))]) S.1 S.2.1 dX1_countAlikeAtStart_49 hl (k := 3) rfl (nI_add i 1) (by decide) rfl (fun ls hl => ?_)
            refine lv_goto (tgt := 14) S.1 S.2.1 dX1_countAlikeAtStart_52 (by decide) ?_
            exact ih_14 (i + 1) _ _ (by omega) (lt_s hk ⟨c_31, c_46⟩) (by omega) hG ls (lv_sub hl [1, 2, 3, 0] rfl)
  exact L_14 _ 0 _ _ (Nat.zero_le _) (fun j h => absurd h (Nat.not_lt_zero _)) (Nat.lt_succ_self _) hG ls (lv_sub hl [2, 3, 1, 0] rfl)

set_option maxHeartbeats 4000000 in
set_option maxRecDepth 100000 in
theorem c_X1_countWrong (l : Launch) (G : Gx) (N : Nat) (ad : Nat → Nat) (s0 : Nat) (f : Nat → va_E) (t n : Nat) (k v : Nat → Int32) (tk : Bool) (hT : TB G N ad f t n k v) (hS : Srt n k) (h0 : tk = false → n = 0) : mI l yX1_countWrong wsX1_countWrong 0 0 0 0 [.ref (ad t), .int (bI tk)] G N ad s0 f (fun r f' => f = f' ∧ r = nI 0) := by
  refine ov_mI (cc := cX1_countWrong) (maxL := 4) (ty := .int) (by decide) rfl (Nat.le_of_ble_eq_true rfl) ?_
  intro p e s m below meth c av Q S ret hG ls hl
  have S : CallFix p m c cX1_countWrong 4 s av wsX1_countWrong RX1 := S
  have hl : lv_has ls 4 [(0, .ref (ad t)), (1, .int (bI tk))] := hl
  have i_X1 : ∀ w ∈ u_ws RX1 TX1 3, w ∈ wsX1_countWrong := by decide +kernel
  have kf_9 := S.2.2.2.2 (.fieldLink RX1 9 "OrderedVersions$Table" "keys" "[I") (by decide +kernel)
  have kf_18 := S.2.2.2.2 (.fieldLink RX1 18 "OrderedVersions$Table" "count" "I") (by decide +kernel)
  have hTn := hT.2.2.2.1
  have hTN := hT.2.2.2.2
  refine lv_iload_n S.1 S.2.1 dX1_countWrong_0 rfl (lv_at hl 1 rfl) ?_
  refine b_if_ne S (b := tk) (tgt := 17) dX1_countWrong_1 (by decide) (fun c_1 => ?_) (fun c_1 => ?_)
  · skip
    refine lv_aload_n S.1 S.2.1 dX1_countWrong_17 rfl (lv_at hl 0 rfl) ?_
    refine o_get S hG i_X1 hT.lt0 hT.1 rfl 2 (by decide) kf_18 rfl dX1_countWrong_18 ?_
    refine lv_if_lt (tgt := 34) S.1 S.2.1 dX1_countWrong_21 (by decide) (fun c_21 => ?_) (fun c_21 => ?_)
    · skip
      exact absurd c_21 (nI_pos (by omega))
    · skip
      refine lv_aload_n S.1 S.2.1 dX1_countWrong_24 rfl (lv_at hl 0 rfl) ?_
      refine o_get S hG i_X1 hT.lt0 hT.1 rfl 2 (by decide) kf_18 rfl dX1_countWrong_25 ?_
      refine lv_sipush (v := (nI 600)) S.1 S.2.1 dX1_countWrong_28 (by decide) ?_
      refine n_le S (a := n) (b := 600) (tgt := 36) dX1_countWrong_31 (by decide) (by omega) (by omega) (fun c_31 => ?_) (fun c_31 => ?_)
      · skip
        refine lv_iconst (v := (nI 0)) S.1 S.2.1 dX1_countWrong_36 (by decide) ?_
        refine lv_istore_n (lv' := [(2, .int (nI 0)), (0, .ref (ad t)), (1, .int (bI tk))]) S.1 S.2.1 dX1_countWrong_37 rfl hl (by decide) rfl (fun ls hl => ?_)
        refine lv_iconst (v := (nI 1)) S.1 S.2.1 dX1_countWrong_38 (by decide) ?_
        refine lv_istore_n (lv' := [(3, .int (nI 1)), (2, .int (nI 0)), (0, .ref (ad t)), (1, .int (bI tk))]) S.1 S.2.1 dX1_countWrong_39 rfl hl (by decide) rfl (fun ls hl => ?_)
        have L_40 : ∀ (d9 : Nat) (i : Nat) (H : Heap) (locs : List Loc), (1 ≤ i ∧ i ≤ n + 1) → (n - i) < d9 → ov_dy G N ad s0 s f H locs → ∀ ls : Array Slot, lv_has ls 4 [(0, .ref (ad t)), (1, .int (bI tk)), (2, .int (nI 0)), (3, .int (nI i))] → W p l e (ov_rm 0 0 0 0) s m av below meth c H locs 0 0 Q (F0 m 40 ls []) := by
          intro d9
          induction d9 with
          | zero => intro i H locs hi h9; exact absurd h9 (Nat.not_lt_zero _)
          | succ d9 ih_40 =>
            intro i H locs hi h9 hG ls hl
            refine lv_iload_n S.1 S.2.1 dX1_countWrong_40 rfl (lv_at hl 3 rfl) ?_
            refine lv_aload_n S.1 S.2.1 dX1_countWrong_41 rfl (lv_at hl 0 rfl) ?_
            refine o_get S hG i_X1 hT.lt0 hT.1 rfl 2 (by decide) kf_18 rfl dX1_countWrong_42 ?_
            refine n_ge S (a := i) (b := n) (tgt := 74) dX1_countWrong_45 (by decide) (by omega) (by omega) (fun c_45 => ?_) (fun c_45 => ?_)
            · skip
              refine lv_iload_n S.1 S.2.1 dX1_countWrong_74 rfl (lv_at hl 2 rfl) ?_
              exact ret _ _ _ _ _ _ _ _ hG ⟨rfl, rfl⟩ rfl (Nat.le_of_ble_eq_true rfl) (Nat.le_of_ble_eq_true rfl) dX1_countWrong_75
            · skip
              refine lv_aload_n S.1 S.2.1 dX1_countWrong_48 rfl (lv_at hl 0 rfl) ?_
              refine o_get S hG i_X1 hT.lt0 hT.1 rfl 0 (by decide) kf_9 rfl dX1_countWrong_49 ?_
              refine lv_iload_n S.1 S.2.1 dX1_countWrong_52 rfl (lv_at hl 3 rfl) ?_
              refine lv_iconst (v := (nI 1)) S.1 S.2.1 dX1_countWrong_53 (by decide) ?_
              refine o_sub S (a := i) (b := 1) dX1_countWrong_54 (by omega) ?_
              refine o_iald S hG (j := i - 1) hT.lt1 hT.2.1 (by omega) dX1_countWrong_55 (kk := ?_)
              refine lv_aload_n S.1 S.2.1 dX1_countWrong_56 rfl (lv_at hl 0 rfl) ?_
              refine o_get S hG i_X1 hT.lt0 hT.1 rfl 0 (by decide) kf_9 rfl dX1_countWrong_57 ?_
              refine lv_iload_n S.1 S.2.1 dX1_countWrong_60 rfl (lv_at hl 3 rfl) ?_
              refine o_iald S hG (j := i) hT.lt1 hT.2.1 (by omega) dX1_countWrong_61 (kk := ?_)
              refine lv_icmp_lt (tgt := 68) S.1 S.2.1 dX1_countWrong_62 (by decide) (fun c_62 => ?_) (fun c_62 => ?_)
              · skip
                refine lv_iinc (v := (nI (i + 1))) (lv' := [(3, .int (nI (i + 1))), (0, .ref (ad t)), (1, .int (bI tk)), (2, .int (nI 0))]) S.1 S.2.1 dX1_countWrong_68 hl (k := 3) rfl (nI_add i 1) (by decide) rfl (fun ls hl => ?_)
                refine lv_goto (tgt := 40) S.1 S.2.1 dX1_countWrong_71 (by decide) ?_
                exact ih_40 (i + 1) _ _ (by omega) (by omega) hG ls (lv_sub hl [1, 2, 3, 0] rfl)
              · skip
                exact absurd (hS _ _ (by omega) (by omega)) c_62
        exact L_40 _ 1 _ _ (by omega) (Nat.lt_succ_self _) hG ls (lv_sub hl [2, 3, 1, 0] rfl)
      · skip
        omega
  · skip
    refine lv_aload_n S.1 S.2.1 dX1_countWrong_4 rfl (lv_at hl 0 rfl) ?_
    refine o_get S hG i_X1 hT.lt0 hT.1 rfl 2 (by decide) kf_18 rfl dX1_countWrong_5 ?_
    refine n_if_ne S (a := n) (tgt := 15) dX1_countWrong_8 (by decide) (by omega) (fun c_8 => ?_) (fun c_8 => ?_)
    · skip
      exact absurd (h0 c_1) c_8
    · skip
      refine lv_iconst (v := (nI 0)) S.1 S.2.1 dX1_countWrong_11 (by decide) ?_
      refine lv_goto (tgt := 16) S.1 S.2.1 dX1_countWrong_12 (by decide) ?_
      exact ret _ _ _ _ _ _ _ _ hG ⟨rfl, rfl⟩ rfl (Nat.le_of_ble_eq_true rfl) (Nat.le_of_ble_eq_true rfl) dX1_countWrong_16
end
section
section OVO
/-- taking over, under way: a of the own keys and c of the other's are left, the tail from b on stands -/
def TO (n : Nat) (k v : Nat → Int32) (n2 : Nat) (k2 v2 : Nat → Int32) (q a b c : Nat) (kk vv : Nat → Int32) : Prop :=
  a ≤ n ∧ c ≤ n2 ∧ b = a + cnt c (fun j => !hs n k (k2 j)) ∧ b ≤ n + q ∧ (∀ i, i < a → kk i = k i ∧ vv i = v i) ∧ (∀ i, a ≤ i → i < n → ∀ j, j < c → k2 j < k i) ∧
  (∀ i j, b ≤ i → i < j → j < n + q → kk i < kk j) ∧ (∀ i, b ≤ i → i < n + q → (∀ j, j < a → k j < kk i) ∧ (∀ j, j < c → k2 j < kk i)) ∧
  (∀ x y, (∃ i, b ≤ i ∧ i < n + q ∧ kk i = x ∧ vv i = y) ↔ (∃ i, a ≤ i ∧ i < n ∧ k i = x ∧ v i = y) ∨ (∃ j, c ≤ j ∧ j < n2 ∧ hs n k (k2 j) = false ∧ k2 j = x ∧ v2 j = y))
variable {n : Nat} {k v : Nat → Int32} {n2 : Nat} {k2 v2 : Nat → Int32} {q a b c : Nat} {kk vv : Nat → Int32}
theorem TO_start (hq : q = cnt n2 (fun j => !hs n k (k2 j))) : TO n k v n2 k2 v2 q n (n + q) n2 k v := by
  refine ⟨Nat.le_refl _, Nat.le_refl _, by rw [hq], Nat.le_refl _, fun i _ => ⟨rfl, rfl⟩, fun i h1 h2 => absurd h2 (by omega), fun i j h1 h2 h3 => absurd h3 (by omega), fun i h1 h2 => absurd h2 (by omega), fun x y => ⟨?_, ?_⟩⟩
  · rintro ⟨i, h1, h2, _⟩; exact absurd h2 (by omega)
  · rintro (⟨i, h1, h2, _⟩ | ⟨i, h1, h2, _⟩) <;> exact absurd h2 (by omega)
/-- one place of the tail is written: what holds of it is what held, and the new one -/
theorem TO_tail {x y : Int32} (h1 : ∀ i j, b + 1 ≤ i → i < j → j < n + q → kk i < kk j) (h2 : ∀ i, b + 1 ≤ i → i < n + q → x < kk i) (hb : b < n + q) :
    (∀ i j, b ≤ i → i < j → j < n + q → upd kk b x i < upd kk b x j) ∧ ∀ u w, (∃ i, b ≤ i ∧ i < n + q ∧ upd kk b x i = u ∧ upd vv b y i = w) ↔ (x = u ∧ y = w) ∨ ∃ i, b + 1 ≤ i ∧ i < n + q ∧ kk i = u ∧ vv i = w := by
  refine ⟨fun i j hi hj hn => ?_, fun u w => ⟨?_, ?_⟩⟩
  · simp only [upd]
    rw [if_neg (show ¬ j = b by omega)]
    by_cases e : i = b
    · rw [if_pos e]; exact h2 j (by omega) hn
    · rw [if_neg e]; exact h1 i j (by omega) hj hn
  · rintro ⟨i, hi, hn, e1, e2⟩
    simp only [upd] at e1 e2
    by_cases e : i = b
    · rw [if_pos e] at e1 e2; exact Or.inl ⟨e1, e2⟩
    · rw [if_neg e] at e1 e2; exact Or.inr ⟨i, by omega, hn, e1, e2⟩
  · rintro (⟨e1, e2⟩ | ⟨i, hi, hn, e1, e2⟩)
    · exact ⟨b, Nat.le_refl _, hb, by simp [upd, e1], by simp [upd, e2]⟩
    · refine ⟨i, by omega, hn, ?_, ?_⟩ <;> simp only [upd] <;> rw [if_neg (show ¬ i = b by omega)] <;> assumption
theorem TO_move (hSk : Srt n k) (hS2 : Srt n2 k2) (h : TO n k v n2 k2 v2 q (a + 1) (b + 1) (c + 1) kk vv) (hgt : k2 c < kk a) : TO n k v n2 k2 v2 q a b (c + 1) (upd kk b (kk a)) (upd vv b (vv a)) := by
  obtain ⟨h1, h2, h3, h4, h5, h6, h7, h8, h9⟩ := h
  have ea := h5 a (by omega)
  have gt : k2 c < k a := by rw [← ea.1]; exact hgt
  obtain ⟨t1, t2⟩ := TO_tail (b := b) (x := kk a) (y := vv a) (kk := kk) (vv := vv) h7 (fun i hi hn => by rw [ea.1]; exact (h8 i hi hn).1 a (by omega)) (by omega)
  refine ⟨by omega, h2, by omega, by omega, fun i hi => ?_, fun i hi hn j hj => ?_, t1, fun i hi hn => ?_, fun x y => ?_⟩
  · simp only [upd]; rw [if_neg (by omega), if_neg (by omega)]; exact h5 i (by omega)
  · by_cases e : i = a
    · subst e
      by_cases e2 : j = c
      · subst e2; exact gt
      · exact i32_tr (hS2 j c (by omega) (by omega)) gt
    · exact h6 i (by omega) hn j hj
  · simp only [upd]
    by_cases e : i = b
    · rw [if_pos e, ea.1]
      refine ⟨fun j hj => hSk j a hj (by omega), fun j hj => ?_⟩
      by_cases e2 : j = c
      · subst e2; exact gt
      · exact i32_tr (hS2 j c (by omega) (by omega)) gt
    · rw [if_neg e]
      have z := h8 i (by omega) hn
      exact ⟨fun j hj => z.1 j (by omega), z.2⟩
  · rw [t2 x y, h9 x y]
    constructor
    · rintro (⟨e1, e2⟩ | ⟨i, g1, g2, g3, g4⟩ | g)
      · exact Or.inl ⟨a, Nat.le_refl _, by omega, by rw [← ea.1]; exact e1, by rw [← ea.2]; exact e2⟩
      · exact Or.inl ⟨i, by omega, g2, g3, g4⟩
      · exact Or.inr g
    · rintro (⟨i, g1, g2, g3, g4⟩ | g)
      · by_cases e : i = a
        · subst e; exact Or.inl ⟨by rw [ea.1]; exact g3, by rw [ea.2]; exact g4⟩
        · exact Or.inr (Or.inl ⟨i, by omega, g2, g3, g4⟩)
      · exact Or.inr (Or.inr g)
theorem TO_has (h : TO n k v n2 k2 v2 q a b (c + 1) kk vv) (hh : hs n k (k2 c) = true) : TO n k v n2 k2 v2 q a b c kk vv := by
  obtain ⟨h1, h2, h3, h4, h5, h6, h7, h8, h9⟩ := h
  refine ⟨h1, by omega, by rw [h3, cnt_f (by simp [hh])], h4, h5, fun i g1 g2 j g3 => h6 i g1 g2 j (by omega), h7, fun i g1 g2 => ⟨(h8 i g1 g2).1, fun j g3 => (h8 i g1 g2).2 j (by omega)⟩, fun x y => ?_⟩
  rw [h9 x y]
  constructor
  · rintro (g | ⟨j, g1, g2, g3⟩)
    · exact Or.inl g
    · exact Or.inr ⟨j, by omega, g2, g3⟩
  · rintro (g | ⟨j, g1, g2, g3, g4⟩)
    · exact Or.inl g
    · by_cases e : j = c
      · subst e; rw [hh] at g3; cases g3
      · exact Or.inr ⟨j, by omega, g2, g3, g4⟩
theorem TO_put (hS2 : Srt n2 k2) (h : TO n k v n2 k2 v2 q a (b + 1) (c + 1) kk vv) (hh : hs n k (k2 c) = false) (hlt : ∀ j, j < a → k j < k2 c) : TO n k v n2 k2 v2 q a b c (upd kk b (k2 c)) (upd vv b (v2 c)) := by
  obtain ⟨h1, h2, h3, h4, h5, h6, h7, h8, h9⟩ := h
  rw [cnt_t (by simp [hh])] at h3
  obtain ⟨t1, t2⟩ := TO_tail (b := b) (x := k2 c) (y := v2 c) (kk := kk) (vv := vv) h7 (fun i hi hn => (h8 i hi hn).2 c (by omega)) (by omega)
  refine ⟨h1, by omega, by omega, by omega, fun i hi => ?_, fun i g1 g2 j g3 => h6 i g1 g2 j (by omega), t1, fun i hi hn => ?_, fun x y => ?_⟩
  · simp only [upd]; rw [if_neg (by omega), if_neg (by omega)]; exact h5 i hi
  · simp only [upd]
    by_cases e : i = b
    · rw [if_pos e]; exact ⟨hlt, fun j hj => hS2 j c hj (by omega)⟩
    · rw [if_neg e]
      have z := h8 i (by omega) hn
      exact ⟨z.1, fun j hj => z.2 j (by omega)⟩
  · rw [t2 x y, h9 x y]
    constructor
    · rintro (⟨e1, e2⟩ | g | ⟨j, g1, g2, g3⟩)
      · exact Or.inr ⟨c, Nat.le_refl _, by omega, hh, e1, e2⟩
      · exact Or.inl g
      · exact Or.inr ⟨j, by omega, g2, g3⟩
    · rintro (g | ⟨j, g1, g2, g3, g4, g5⟩)
      · exact Or.inr (Or.inl g)
      · by_cases e : j = c
        · subst e; exact Or.inl ⟨g4, g5⟩
        · exact Or.inr (Or.inr ⟨j, by omega, g2, g3, g4, g5⟩)
theorem TO_end (hSk : Srt n k) (h : TO n k v n2 k2 v2 q a b 0 kk vv) : Srt (n + q) kk ∧ ∀ x y, Has (n + q) kk vv x y ↔ Has n k v x y ∨ (hs n k x = false ∧ Has n2 k2 v2 x y) := by
  obtain ⟨h1, h2, h3, h4, h5, h6, h7, h8, h9⟩ := h
  have e : b = a := by rw [h3]; rfl
  subst e
  refine ⟨fun i j hi hj => ?_, fun x y => ⟨?_, ?_⟩⟩
  · by_cases g1 : j < b
    · rw [(h5 i (by omega)).1, (h5 j g1).1]; exact hSk i j hi (by omega)
    · by_cases g2 : i < b
      · rw [(h5 i g2).1]; exact (h8 j (by omega) hj).1 i g2
      · exact h7 i j (by omega) hi hj
  · rintro ⟨i, hi, e1, e2⟩
    by_cases g : i < b
    · exact Or.inl ⟨i, by omega, by rw [← (h5 i g).1]; exact e1, by rw [← (h5 i g).2]; exact e2⟩
    · rcases (h9 x y).mp ⟨i, by omega, hi, e1, e2⟩ with ⟨j, g1, g2, g3, g4⟩ | ⟨j, g1, g2, g3, g4, g5⟩
      · exact Or.inl ⟨j, g2, g3, g4⟩
      · exact Or.inr ⟨by rw [← g4]; exact g3, j, g2, g4, g5⟩
  · rintro (⟨i, hi, e1, e2⟩ | ⟨g, j, hj, e1, e2⟩)
    · by_cases g : i < b
      · exact ⟨i, by omega, by rw [(h5 i g).1]; exact e1, by rw [(h5 i g).2]; exact e2⟩
      · obtain ⟨z, g1, g2, g3⟩ := (h9 x y).mpr (Or.inl ⟨i, by omega, hi, e1, e2⟩)
        exact ⟨z, g2, g3⟩
    · obtain ⟨z, g1, g2, g3⟩ := (h9 x y).mpr (Or.inr ⟨j, Nat.zero_le _, hj, by rw [e1]; exact g, e1, e2⟩)
      exact ⟨z, g2, g3⟩
theorem srt_gt (hSk : Srt n k) (h : ¬ k a ≤ k c) (h1 : a < n) (h2 : c < n) : c < a := by
  refine Nat.lt_of_not_le fun h3 => h ?_
  rcases Nat.lt_or_eq_of_le h3 with h4 | h4
  · have := hSk a c h4 h2
    rw [i32_lt] at this; rw [i32_le]; omega
  · rw [h4, i32_le]; exact Int.le_refl _
/-- the key is not among the own: the own keys that are left are below it -/
theorem TO_no (hSk : Srt n k) (h : TO n k v n2 k2 v2 q a b (c + 1) kk vv) (hlt : ∀ j, j < a → k j < k2 c) : hs n k (k2 c) = false := by
  refine hs_false hSk fun i hi e => ?_
  by_cases g : i < a
  · have := hlt i g; rw [e] at this; exact i32_irr _ this
  · have := h.2.2.2.2.2.1 i (by omega) hi c (by omega); rw [e] at this; exact i32_irr _ this
theorem TO_lt (hSk : Srt n k) (h : TO n k v n2 k2 v2 q (a + 1) b (c + 1) kk vv) (hle : kk a ≤ k2 c) (hn : ha n kk (nI a) (k2 c) = false) (h600 : n ≤ 600) : ∀ j, j < a + 1 → k j < k2 c := by
  have ea := (h.2.2.2.2.1 a (by omega)).1
  have h1 := h.1
  rw [ha_nI (by omega)] at hn
  have ne : kk a ≠ k2 c := fun q9 => absurd (show a < n ∧ kk a = k2 c from ⟨by omega, q9⟩) (of_decide_eq_false hn)
  have lt : k a < k2 c := by rw [← ea]; exact i32_le_ne hle ne
  intro j hj
  by_cases e : j = a
  · subst e; exact lt
  · exact i32_tr (hSk j a (by omega) (by omega)) lt
theorem TO_yes (hSk : Srt n k) (h : TO n k v n2 k2 v2 q a b (c + 1) kk vv) {ix : Int32} (hn : ha n kk ix (k2 c) = true) (hix : ix = pI a) (h600 : n ≤ 600) : hs n k (k2 c) = true := by
  subst hix
  simp only [ha, decide_eq_true_eq] at hn
  obtain ⟨g1, g2, g3⟩ := hn
  have ha := h.1
  rw [pI_toInt (by omega)] at g1 g2 g3
  obtain ⟨z, rfl⟩ : ∃ z, a = z + 1 := ⟨a - 1, by omega⟩
  rw [show ((z + 1 : Nat) : Int) - 1 = (z : Int) by omega] at g3
  have ea := (h.2.2.2.2.1 z (by omega)).1
  refine (hs_iff hSk _).mpr ⟨z, by omega, ?_⟩
  rw [← ea]; simpa using g3
end OVO
end
section
set_option maxHeartbeats 4000000 in
set_option maxRecDepth 100000 in
theorem c_X1_takeOver (l : Launch) (G : Gx) (N : Nat) (ad : Nat → Nat) (s0 : Nat) (f : Nat → va_E) (t n : Nat) (k v : Nat → Int32) (o n2 : Nat) (k2 v2 : Nat → Int32) (q : Nat) (hT : TB G N ad f t n k v) (hU : TB G N ad f o n2 k2 v2) (hap : t + 2 < o ∨ o + 2 < t) (hSk : Srt n k) (hS2 : Srt n2 k2) (hq : q = cnt n2 (fun j => !hs n k (k2 j))) (hq9 : n + q ≤ 600) : mV l yX1_takeOver wsX1_takeOver 2 43 0 0 [.ref (ad t), .ref (ad o), .int (nI q)] G N ad s0 f (fun f' => ∃ k3 v3, TB G N ad f' t (n + q) k3 v3 ∧ Onl t f f' ∧ Srt (n + q) k3 ∧ ∀ x y, Has (n + q) k3 v3 x y ↔ Has n k v x y ∨ (hs n k x = false ∧ Has n2 k2 v2 x y)) := by
  refine ov_mV (cc := cX1_takeOver) (maxL := 7) (by decide) rfl (Nat.le_of_ble_eq_true rfl) ?_
  intro p e s m below meth c av Q S ret hG ls hl
  have S : CallFix p m c cX1_takeOver 7 s av wsX1_takeOver RX1 := S
  have hl : lv_has ls 7 [(0, .ref (ad t)), (1, .ref (ad o)), (2, .int (nI q))] := hl
  have i_X1 : ∀ w ∈ u_ws RX1 TX1 3, w ∈ wsX1_takeOver := by decide +kernel
  have kf_9 := S.2.2.2.2 (.fieldLink RX1 9 "OrderedVersions$Table" "keys" "[I") (by decide +kernel)
  have kf_15 := S.2.2.2.2 (.fieldLink RX1 15 "OrderedVersions$Table" "values" "[I") (by decide +kernel)
  have kf_18 := S.2.2.2.2 (.fieldLink RX1 18 "OrderedVersions$Table" "count" "I") (by decide +kernel)
  have hTn := hT.2.2.2.1
  have hTN := hT.2.2.2.2
  have hUn := hU.2.2.2.1
  have hUN := hU.2.2.2.2
  have hO : Onl t f f := Onl.rf
  refine lv_aload_n S.1 S.2.1 dX1_takeOver_0 rfl (lv_at hl 0 rfl) ?_
  refine o_get S hG i_X1 hT.lt0 hT.1 rfl 2 (by decide) kf_18 rfl dX1_takeOver_1 ?_
  refine lv_iconst (v := (nI 1)) S.1 S.2.1 dX1_takeOver_4 (by decide) ?_
  refine lv_isub S.1 S.2.1 dX1_takeOver_5 ?_
  refine o_top (rfl) ?_
  refine lv_istore_n (lv' := [(3, .int (pI n)), (0, .ref (ad t)), (1, .ref (ad o)), (2, .int (nI q))]) S.1 S.2.1 dX1_takeOver_6 rfl hl (by decide) rfl (fun ls hl => ?_)
  refine lv_iload_n S.1 S.2.1 dX1_takeOver_7 rfl (lv_at hl 0 rfl) ?_
  refine lv_iload_n S.1 S.2.1 dX1_takeOver_8 rfl (lv_at hl 3 rfl) ?_
  refine lv_iadd S.1 S.2.1 dX1_takeOver_9 ?_
  refine o_top (pI_add) ?_
  refine lv_istore (lv' := [(4, .int (pI (n + q))), (3, .int (pI n)), (0, .ref (ad t)), (1, .ref (ad o)), (2, .int (nI q))]) S.1 S.2.1 dX1_takeOver_10 hl (by decide) rfl (fun ls hl => ?_)
  refine lv_aload_n S.1 S.2.1 dX1_takeOver_12 rfl (lv_at hl 3 rfl) ?_
  refine o_get S hG i_X1 hU.lt0 hU.1 rfl 2 (by decide) kf_18 rfl dX1_takeOver_13 ?_
  refine lv_iconst (v := (nI 1)) S.1 S.2.1 dX1_takeOver_16 (by decide) ?_
  refine lv_isub S.1 S.2.1 dX1_takeOver_17 ?_
  refine o_top (rfl) ?_
  refine lv_istore (lv' := [(5, .int (pI n2)), (4, .int (pI (n + q))), (3, .int (pI n)), (0, .ref (ad t)), (1, .ref (ad o)), (2, .int (nI q))]) S.1 S.2.1 dX1_takeOver_18 hl (by decide) rfl (fun ls hl => ?_)
  have L_20 : ∀ (d9 : Nat) (a : Nat) (b : Nat) (c0 : Nat) (kk : Nat → Int32) (vv : Nat → Int32) (f2 : Nat → va_E) (H : Heap) (locs : List Loc), (TB G N ad f2 t n kk vv) → (TB G N ad f2 o n2 k2 v2) → (Onl t f f2) → (TO n k v n2 k2 v2 q a b c0 kk vv) → c0 < d9 → ov_dy G N ad s0 s f2 H locs → ∀ ls : Array Slot, lv_has ls 7 [(0, .ref (ad t)), (1, .ref (ad o)), (2, .int (nI q)), (3, .int (pI a)), (4, .int (pI b)), (5, .int (pI c0))] → W p l e (ov_rm 2 43 0 0) s m av below meth c H locs 0 0 Q (F0 m 20 ls []) := by
    intro d9
    induction d9 with
    | zero => intro a b c0 kk vv f2 H locs hT hU hO hI h9; exact absurd h9 (Nat.not_lt_zero _)
    | succ d9 ih_20 =>
      intro a b c0 kk vv f2 H locs hT hU hO hI h9 hG ls hl
      have hIc := hI.2.1
      refine lv_iload S.1 S.2.1 dX1_takeOver_20 (lv_at hl 5 rfl) ?_
      refine lv_if_lt (tgt := 126) S.1 S.2.1 dX1_takeOver_22 (by decide) (fun c_22 => ?_) (fun c_22 => ?_)
      · skip
        have ec := pI_neg (by omega) c_22
        subst ec
        refine lv_aload_n S.1 S.2.1 dX1_takeOver_126 rfl (lv_at hl 0 rfl) ?_
        refine lv_dup S.1 S.2.1 dX1_takeOver_127 rfl ?_
        refine o_get S hG i_X1 hT.lt0 hT.1 rfl 2 (by decide) kf_18 rfl dX1_takeOver_128 ?_
        refine lv_iload_n S.1 S.2.1 dX1_takeOver_131 rfl (lv_at hl 2 rfl) ?_
        refine o_add S (a := n) (b := q) dX1_takeOver_132 ?_
        refine o_put S hG i_X1 tyX1_ok nmX1 hT.lt0 hT.1 rfl 2 (by decide) kf_18 rfl rfl rfl (Nat.le_of_ble_eq_true rfl) dX1_takeOver_133 (fun H locs hG => ?_)
        obtain ⟨f_1, ef_1, hG⟩ := ov_name hG
        have hT := hT.upn ef_1 (n2 := n + q) (by omega)
        have hU := hU.ne ef_1 (by omega) (by omega) (by omega)
        have hO := hO.up ef_1 (by omega)
        exact ret _ _ _ _ _ _ _ hG ⟨_, _, hT, hO, TO_end hSk hI⟩ (Nat.le_of_ble_eq_true rfl) (Nat.le_of_ble_eq_true rfl) dX1_takeOver_136
      · skip
        obtain ⟨c1, rfl⟩ := pI_pos (by omega) c_22
        simp only [pI_succ] at hl
        refine lv_aload_n S.1 S.2.1 dX1_takeOver_25 rfl (lv_at hl 1 rfl) ?_
        refine o_get S hG i_X1 hU.lt0 hU.1 rfl 0 (by decide) kf_9 rfl dX1_takeOver_26 ?_
        refine lv_iload S.1 S.2.1 dX1_takeOver_29 (lv_at hl 5 rfl) ?_
        refine o_iald S hG (j := c1) hU.lt1 hU.2.1 (by omega) dX1_takeOver_31 (kk := ?_)
        refine lv_istore (lv' := [(6, .int (k2 c1)), (0, .ref (ad t)), (1, .ref (ad o)), (2, .int (nI q)), (3, .int (pI a)), (4, .int (pI b)), (5, .int (nI c1))]) S.1 S.2.1 dX1_takeOver_32 hl (by decide) rfl (fun ls hl => ?_)
        have L_34 : ∀ (d9 : Nat) (a : Nat) (b : Nat) (kk : Nat → Int32) (vv : Nat → Int32) (f3 : Nat → va_E) (H : Heap) (locs : List Loc), (TB G N ad f3 t n kk vv) → (TB G N ad f3 o n2 k2 v2) → (Onl t f f3) → (TO n k v n2 k2 v2 q a b (c1 + 1) kk vv) → a < d9 → ov_dy G N ad s0 s f3 H locs → ∀ ls : Array Slot, lv_has ls 7 [(0, .ref (ad t)), (1, .ref (ad o)), (2, .int (nI q)), (3, .int (pI a)), (4, .int (pI b)), (5, .int (nI c1)), (6, .int (k2 c1))] → W p l e (ov_rm 2 43 0 0) s m av below meth c H locs 0 0 Q (F0 m 34 ls []) := by
          intro d9
          induction d9 with
          | zero => intro a b kk vv f3 H locs hT hU hO hI h9; exact absurd h9 (Nat.not_lt_zero _)
          | succ d9 ih_34 =>
            intro a b kk vv f3 H locs hT hU hO hI h9 hG ls hl
            refine lv_iload_n S.1 S.2.1 dX1_takeOver_34 rfl (lv_at hl 3 rfl) ?_
            refine lv_if_lt (tgt := 84) S.1 S.2.1 dX1_takeOver_35 (by decide) (fun c_35 => ?_) (fun c_35 => ?_)
            · skip
              refine lv_aload_n S.1 S.2.1 dX1_takeOver_84 rfl (lv_at hl 0 rfl) ?_
              refine lv_iload_n S.1 S.2.1 dX1_takeOver_85 rfl (lv_at hl 3 rfl) ?_
              refine lv_iload S.1 S.2.1 dX1_takeOver_86 (lv_at hl 6 rfl) ?_
              refine o_cVi S (rest := []) (c_X1_hasAt l G N ad s0 f3 t n kk vv (pI a) (k2 c1) hT) (cwV 2 S.2.2.2.2 gX1_takeOver_X1_hasAt rfl rfl rfl (by decide +kernel) ⟨(Nat.le_of_ble_eq_true rfl), (Nat.le_of_ble_eq_true rfl)⟩) hG hT.lt0 hT.1 rfl rfl hl.1 rfl (Nat.le_of_ble_eq_true rfl) dX1_takeOver_88 ⟨(Nat.le_of_ble_eq_true rfl), (Nat.le_of_ble_eq_true rfl)⟩ (fun r9 f9 H locs hp hG => ?_)
              obtain ⟨rfl, rfl⟩ := hp
              refine b_if_ne S (b := (ha n kk (pI a) (k2 c1))) (tgt := 120) dX1_takeOver_91 (by decide) (fun c_91 => ?_) (fun c_91 => ?_)
              · skip
                refine lv_iinc (v := (pI c1)) (lv' := [(5, .int (pI c1)), (0, .ref (ad t)), (1, .ref (ad o)), (2, .int (nI q)), (3, .int (pI a)), (4, .int (pI b)), (6, .int (k2 c1))]) S.1 S.2.1 dX1_takeOver_120 hl (k := 5) rfl (pI_inc c1) (by decide) rfl (fun ls hl => ?_)
                refine lv_goto (tgt := 20) S.1 S.2.1 dX1_takeOver_123 (by decide) ?_
                exact ih_20 a b c1 kk vv f3 _ _ hT hU hO (TO_has hI (TO_yes hSk hI c_91 rfl hTn)) (by omega) hG ls (lv_sub hl [1, 2, 3, 4, 5, 0] rfl)
              · skip
                have ea := pI_neg (by have := hI.1; omega) c_35
                subst ea
                have hlt : ∀ j, j < 0 → k j < k2 c1 := fun j h => absurd h (Nat.not_lt_zero _)
                have hno := TO_no hSk hI hlt
                have hIb := hI.2.2.2.1
                obtain ⟨b1, rfl⟩ : ∃ z, b = z + 1 := ⟨b - 1, by have := hI.2.2.1; rw [cnt_t (by simp [hno])] at this; omega⟩
                simp only [pI_succ] at hl
                refine lv_aload_n S.1 S.2.1 dX1_takeOver_94 rfl (lv_at hl 0 rfl) ?_
                refine o_get S hG i_X1 hT.lt0 hT.1 rfl 0 (by decide) kf_9 rfl dX1_takeOver_95 ?_
                refine lv_iload S.1 S.2.1 dX1_takeOver_98 (lv_at hl 4 rfl) ?_
                refine lv_iload S.1 S.2.1 dX1_takeOver_100 (lv_at hl 6 rfl) ?_
                refine o_iast S hG (j := b1) hT.lt1 hT.2.1 (by omega) dX1_takeOver_102 (kk := fun H locs hG => ?_)
                obtain ⟨f_2, ef_2, hG⟩ := ov_name hG
                have hT := hT.upk ef_2
                have hU := hU.ne ef_2 (by omega) (by omega) (by omega)
                have hO := hO.up ef_2 (by omega)
                refine lv_aload_n S.1 S.2.1 dX1_takeOver_103 rfl (lv_at hl 0 rfl) ?_
                refine o_get S hG i_X1 hT.lt0 hT.1 rfl 1 (by decide) kf_15 rfl dX1_takeOver_104 ?_
                refine lv_iload S.1 S.2.1 dX1_takeOver_107 (lv_at hl 4 rfl) ?_
                refine lv_aload_n S.1 S.2.1 dX1_takeOver_109 rfl (lv_at hl 1 rfl) ?_
                refine o_get S hG i_X1 hU.lt0 hU.1 rfl 1 (by decide) kf_15 rfl dX1_takeOver_110 ?_
                refine lv_iload S.1 S.2.1 dX1_takeOver_113 (lv_at hl 5 rfl) ?_
                refine o_iald S hG (j := c1) hU.lt2 hU.2.2.1 (by omega) dX1_takeOver_115 (kk := ?_)
                refine o_iast S hG (j := b1) hT.lt2 hT.2.2.1 (by omega) dX1_takeOver_116 (kk := fun H locs hG => ?_)
                obtain ⟨f_3, ef_3, hG⟩ := ov_name hG
                have hT := hT.upv ef_3
                have hU := hU.ne ef_3 (by omega) (by omega) (by omega)
                have hO := hO.up ef_3 (by omega)
                refine lv_iinc (v := (pI b1)) (lv' := [(4, .int (pI b1)), (0, .ref (ad t)), (1, .ref (ad o)), (2, .int (nI q)), (3, .int (pI 0)), (5, .int (nI c1)), (6, .int (k2 c1))]) S.1 S.2.1 dX1_takeOver_117 hl (k := 4) rfl (pI_inc b1) (by decide) rfl (fun ls hl => ?_)
                refine lv_iinc (v := (pI c1)) (lv' := [(5, .int (pI c1)), (4, .int (pI b1)), (0, .ref (ad t)), (1, .ref (ad o)), (2, .int (nI q)), (3, .int (pI 0)), (6, .int (k2 c1))]) S.1 S.2.1 dX1_takeOver_120 hl (k := 5) rfl (pI_inc c1) (by decide) rfl (fun ls hl => ?_)
                refine lv_goto (tgt := 20) S.1 S.2.1 dX1_takeOver_123 (by decide) ?_
                exact ih_20 0 b1 c1 (upd kk b1 (k2 c1)) (upd vv b1 (v2 c1)) f_3 _ _ hT hU hO (TO_put hS2 hI hno hlt) (by omega) hG ls (lv_sub hl [2, 3, 4, 5, 1, 0] rfl)
            · skip
              have hIa := hI.1
              obtain ⟨a1, rfl⟩ := pI_pos (by omega) c_35
              simp only [pI_succ] at hl
              refine lv_aload_n S.1 S.2.1 dX1_takeOver_38 rfl (lv_at hl 0 rfl) ?_
              refine o_get S hG i_X1 hT.lt0 hT.1 rfl 0 (by decide) kf_9 rfl dX1_takeOver_39 ?_
              refine lv_iload_n S.1 S.2.1 dX1_takeOver_42 rfl (lv_at hl 3 rfl) ?_
              refine o_iald S hG (j := a1) hT.lt1 hT.2.1 (by omega) dX1_takeOver_43 (kk := ?_)
              refine lv_iload S.1 S.2.1 dX1_takeOver_44 (lv_at hl 6 rfl) ?_
              refine lv_icmp_le (tgt := 84) S.1 S.2.1 dX1_takeOver_46 (by decide) (fun c_46 => ?_) (fun c_46 => ?_)
              · skip
                refine lv_aload_n S.1 S.2.1 dX1_takeOver_84 rfl (lv_at hl 0 rfl) ?_
                refine lv_iload_n S.1 S.2.1 dX1_takeOver_85 rfl (lv_at hl 3 rfl) ?_
                refine lv_iload S.1 S.2.1 dX1_takeOver_86 (lv_at hl 6 rfl) ?_
                refine o_cVi S (rest := []) (c_X1_hasAt l G N ad s0 f3 t n kk vv (nI a1) (k2 c1) hT) (cwV 2 S.2.2.2.2 gX1_takeOver_X1_hasAt rfl rfl rfl (by decide +kernel) ⟨(Nat.le_of_ble_eq_true rfl), (Nat.le_of_ble_eq_true rfl)⟩) hG hT.lt0 hT.1 rfl rfl hl.1 rfl (Nat.le_of_ble_eq_true rfl) dX1_takeOver_88 ⟨(Nat.le_of_ble_eq_true rfl), (Nat.le_of_ble_eq_true rfl)⟩ (fun r9 f9 H locs hp hG => ?_)
                obtain ⟨rfl, rfl⟩ := hp
                refine b_if_ne S (b := (ha n kk (nI a1) (k2 c1))) (tgt := 120) dX1_takeOver_91 (by decide) (fun c_91 => ?_) (fun c_91 => ?_)
                · skip
                  refine lv_iinc (v := (pI c1)) (lv' := [(5, .int (pI c1)), (0, .ref (ad t)), (1, .ref (ad o)), (2, .int (nI q)), (3, .int (nI a1)), (4, .int (pI b)), (6, .int (k2 c1))]) S.1 S.2.1 dX1_takeOver_120 hl (k := 5) rfl (pI_inc c1) (by decide) rfl (fun ls hl => ?_)
                  refine lv_goto (tgt := 20) S.1 S.2.1 dX1_takeOver_123 (by decide) ?_
                  rw [← pI_succ a1] at hl
                  exact ih_20 (a1 + 1) b c1 kk vv f3 _ _ hT hU hO (TO_has hI (TO_yes hSk hI c_91 (pI_succ a1).symm hTn)) (by omega) hG ls (lv_sub hl [1, 2, 3, 4, 5, 0] rfl)
                · skip
                  have hlt := TO_lt hSk hI c_46 c_91 hTn
                  have hno := TO_no hSk hI hlt
                  have hIb := hI.2.2.2.1
                  obtain ⟨b1, rfl⟩ : ∃ z, b = z + 1 := ⟨b - 1, by have := hI.2.2.1; rw [cnt_t (by simp [hno])] at this; omega⟩
                  simp only [pI_succ] at hl
                  refine lv_aload_n S.1 S.2.1 dX1_takeOver_94 rfl (lv_at hl 0 rfl) ?_
                  refine o_get S hG i_X1 hT.lt0 hT.1 rfl 0 (by decide) kf_9 rfl dX1_takeOver_95 ?_
                  refine lv_iload S.1 S.2.1 dX1_takeOver_98 (lv_at hl 4 rfl) ?_
                  refine lv_iload S.1 S.2.1 dX1_takeOver_100 (lv_at hl 6 rfl) ?_
                  refine o_iast S hG (j := b1) hT.lt1 hT.2.1 (by omega) dX1_takeOver_102 (kk := fun H locs hG => ?_)
                  obtain ⟨f_4, ef_4, hG⟩ := ov_name hG
                  have hT := hT.upk ef_4
                  have hU := hU.ne ef_4 (by omega) (by omega) (by omega)
                  have hO := hO.up ef_4 (by omega)
                  refine lv_aload_n S.1 S.2.1 dX1_takeOver_103 rfl (lv_at hl 0 rfl) ?_
                  refine o_get S hG i_X1 hT.lt0 hT.1 rfl 1 (by decide) kf_15 rfl dX1_takeOver_104 ?_
                  refine lv_iload S.1 S.2.1 dX1_takeOver_107 (lv_at hl 4 rfl) ?_
                  refine lv_aload_n S.1 S.2.1 dX1_takeOver_109 rfl (lv_at hl 1 rfl) ?_
                  refine o_get S hG i_X1 hU.lt0 hU.1 rfl 1 (by decide) kf_15 rfl dX1_takeOver_110 ?_
                  refine lv_iload S.1 S.2.1 dX1_takeOver_113 (lv_at hl 5 rfl) ?_
                  refine o_iald S hG (j := c1) hU.lt2 hU.2.2.1 (by omega) dX1_takeOver_115 (kk := ?_)
                  refine o_iast S hG (j := b1) hT.lt2 hT.2.2.1 (by omega) dX1_takeOver_116 (kk := fun H locs hG => ?_)
                  obtain ⟨f_5, ef_5, hG⟩ := ov_name hG
                  have hT := hT.upv ef_5
                  have hU := hU.ne ef_5 (by omega) (by omega) (by omega)
                  have hO := hO.up ef_5 (by omega)
                  refine lv_iinc (v := (pI b1)) (lv' := [(4, .int (pI b1)), (0, .ref (ad t)), (1, .ref (ad o)), (2, .int (nI q)), (3, .int (nI a1)), (5, .int (nI c1)), (6, .int (k2 c1))]) S.1 S.2.1 dX1_takeOver_117 hl (k := 4) rfl (pI_inc b1) (by decide) rfl (fun ls hl => ?_)
                  refine lv_iinc (v := (pI c1)) (lv' := [(5, .int (pI c1)), (4, .int (pI b1)), (0, .ref (ad t)), (1, .ref (ad o)), (2, .int (nI q)), (3, .int (nI a1)), (6, .int (k2 c1))]) S.1 S.2.1 dX1_takeOver_120 hl (k := 5) rfl (pI_inc c1) (by decide) rfl (fun ls hl => ?_)
                  refine lv_goto (tgt := 20) S.1 S.2.1 dX1_takeOver_123 (by decide) ?_
                  rw [← pI_succ a1] at hl
                  exact ih_20 (a1 + 1) b1 c1 (upd kk b1 (k2 c1)) (upd vv b1 (v2 c1)) f_5 _ _ hT hU hO (TO_put hS2 hI hno hlt) (by omega) hG ls (lv_sub hl [2, 3, 4, 5, 1, 0] rfl)
              · skip
                have hIa := hI.1
                have hIb := hI.2.2.2.1
                obtain ⟨b1, rfl⟩ : ∃ z, b = z + 1 := ⟨b - 1, by have := hI.2.2.1; omega⟩
                simp only [pI_succ] at hl
                refine lv_aload_n S.1 S.2.1 dX1_takeOver_49 rfl (lv_at hl 0 rfl) ?_
                refine o_get S hG i_X1 hT.lt0 hT.1 rfl 0 (by decide) kf_9 rfl dX1_takeOver_50 ?_
                refine lv_iload S.1 S.2.1 dX1_takeOver_53 (lv_at hl 4 rfl) ?_
                refine lv_aload_n S.1 S.2.1 dX1_takeOver_55 rfl (lv_at hl 0 rfl) ?_
                refine o_get S hG i_X1 hT.lt0 hT.1 rfl 0 (by decide) kf_9 rfl dX1_takeOver_56 ?_
                refine lv_iload_n S.1 S.2.1 dX1_takeOver_59 rfl (lv_at hl 3 rfl) ?_
                refine o_iald S hG (j := a1) hT.lt1 hT.2.1 (by omega) dX1_takeOver_60 (kk := ?_)
                refine o_iast S hG (j := b1) hT.lt1 hT.2.1 (by omega) dX1_takeOver_61 (kk := fun H locs hG => ?_)
                obtain ⟨f_6, ef_6, hG⟩ := ov_name hG
                have hT := hT.upk ef_6
                have hU := hU.ne ef_6 (by omega) (by omega) (by omega)
                have hO := hO.up ef_6 (by omega)
                refine lv_aload_n S.1 S.2.1 dX1_takeOver_62 rfl (lv_at hl 0 rfl) ?_
                refine o_get S hG i_X1 hT.lt0 hT.1 rfl 1 (by decide) kf_15 rfl dX1_takeOver_63 ?_
                refine lv_iload S.1 S.2.1 dX1_takeOver_66 (lv_at hl 4 rfl) ?_
                refine lv_aload_n S.1 S.2.1 dX1_takeOver_68 rfl (lv_at hl 0 rfl) ?_
                refine o_get S hG i_X1 hT.lt0 hT.1 rfl 1 (by decide) kf_15 rfl dX1_takeOver_69 ?_
                refine lv_iload_n S.1 S.2.1 dX1_takeOver_72 rfl (lv_at hl 3 rfl) ?_
                refine o_iald S hG (j := a1) hT.lt2 hT.2.2.1 (by omega) dX1_takeOver_73 (kk := ?_)
                refine o_iast S hG (j := b1) hT.lt2 hT.2.2.1 (by omega) dX1_takeOver_74 (kk := fun H locs hG => ?_)
                obtain ⟨f_7, ef_7, hG⟩ := ov_name hG
                have hT := hT.upv ef_7
                have hU := hU.ne ef_7 (by omega) (by omega) (by omega)
                have hO := hO.up ef_7 (by omega)
                refine lv_iinc (v := (pI a1)) (lv' := [(3, .int (pI a1)), (0, .ref (ad t)), (1, .ref (ad o)), (2, .int (nI q)), (4, .int (nI b1)), (5, .int (nI c1)), (6, .int (k2 c1))]) S.1 S.2.1 dX1_takeOver_75 hl (k := 3) rfl (pI_inc a1) (by decide) rfl (fun ls hl => ?_)
                refine lv_iinc (v := (pI b1)) (lv' := [(4, .int (pI b1)), (3, .int (pI a1)), (0, .ref (ad t)), (1, .ref (ad o)), (2, .int (nI q)), (5, .int (nI c1)), (6, .int (k2 c1))]) S.1 S.2.1 dX1_takeOver_78 hl (k := 4) rfl (pI_inc b1) (by decide) rfl (fun ls hl => ?_)
                refine lv_goto (tgt := 34) S.1 S.2.1 dX1_takeOver_81 (by decide) ?_
                exact ih_34 a1 b1 (upd kk b1 (kk a1)) (upd vv b1 (vv a1)) f_7 _ _ hT hU hO (TO_move hSk hS2 hI (i32_of_nle c_46)) (by omega) hG ls (lv_sub hl [2, 3, 4, 1, 0, 5, 6] rfl)
        exact L_34 _ a b kk vv f2 _ _ hT hU hO hI (Nat.lt_succ_self _) hG ls (lv_sub hl [1, 2, 3, 4, 5, 6, 0] rfl)
  exact L_20 _ n (n + q) n2 k v f _ _ hT hU hO (TO_start hq) (Nat.lt_succ_self _) hG ls (lv_sub hl [3, 4, 5, 2, 1, 0] rfl)

set_option maxHeartbeats 4000000 in
set_option maxRecDepth 100000 in
theorem c_X1_takeOver_self (l : Launch) (G : Gx) (N : Nat) (ad : Nat → Nat) (s0 : Nat) (f : Nat → va_E) (t n : Nat) (k v : Nat → Int32) (hT : TB G N ad f t n k v) (hSk : Srt n k) : mV l yX1_takeOver wsX1_takeOver 2 43 0 0 [.ref (ad t), .ref (ad t), .int (nI 0)] G N ad s0 f (fun f' => TB G N ad f' t n k v ∧ Onl t f f') := by
  refine ov_mV (cc := cX1_takeOver) (maxL := 7) (by decide) rfl (Nat.le_of_ble_eq_true rfl) ?_
  intro p e s m below meth c av Q S ret hG ls hl
  have S : CallFix p m c cX1_takeOver 7 s av wsX1_takeOver RX1 := S
  have hl : lv_has ls 7 [(0, .ref (ad t)), (1, .ref (ad t)), (2, .int (nI 0))] := hl
  have i_X1 : ∀ w ∈ u_ws RX1 TX1 3, w ∈ wsX1_takeOver := by decide +kernel
  have kf_9 := S.2.2.2.2 (.fieldLink RX1 9 "OrderedVersions$Table" "keys" "[I") (by decide +kernel)
  have kf_15 := S.2.2.2.2 (.fieldLink RX1 15 "OrderedVersions$Table" "values" "[I") (by decide +kernel)
  have kf_18 := S.2.2.2.2 (.fieldLink RX1 18 "OrderedVersions$Table" "count" "I") (by decide +kernel)
  have hTn := hT.2.2.2.1
  have hTN := hT.2.2.2.2
  have hO : Onl t f f := Onl.rf
  refine lv_aload_n S.1 S.2.1 dX1_takeOver_0 rfl (lv_at hl 0 rfl) ?_
  refine o_get S hG i_X1 hT.lt0 hT.1 rfl 2 (by decide) kf_18 rfl dX1_takeOver_1 ?_
  refine lv_iconst (v := (nI 1)) S.1 S.2.1 dX1_takeOver_4 (by decide) ?_
  refine lv_isub S.1 S.2.1 dX1_takeOver_5 ?_
  refine o_top (rfl) ?_
  refine lv_istore_n (lv' := [(3, .int (pI n)), (0, .ref (ad t)), (1, .ref (ad t)), (2, .int (nI 0))]) S.1 S.2.1 dX1_takeOver_6 rfl hl (by decide) rfl (fun ls hl => ?_)
  refine lv_iload_n S.1 S.2.1 dX1_takeOver_7 rfl (lv_at hl 0 rfl) ?_
  refine lv_iload_n S.1 S.2.1 dX1_takeOver_8 rfl (lv_at hl 3 rfl) ?_
  refine lv_iadd S.1 S.2.1 dX1_takeOver_9 ?_
  refine o_top (pI_add) ?_
  refine lv_istore (lv' := [(4, .int (pI n)), (3, .int (pI n)), (0, .ref (ad t)), (1, .ref (ad t)), (2, .int (nI 0))]) S.1 S.2.1 dX1_takeOver_10 hl (by decide) rfl (fun ls hl => ?_)
  refine lv_aload_n S.1 S.2.1 dX1_takeOver_12 rfl (lv_at hl 3 rfl) ?_
  refine o_get S hG i_X1 hT.lt0 hT.1 rfl 2 (by decide) kf_18 rfl dX1_takeOver_13 ?_
  refine lv_iconst (v := (nI 1)) S.1 S.2.1 dX1_takeOver_16 (by decide) ?_
  refine lv_isub S.1 S.2.1 dX1_takeOver_17 ?_
  refine o_top (rfl) ?_
  refine lv_istore (lv' := [(5, .int (pI n)), (4, .int (pI n)), (3, .int (pI n)), (0, .ref (ad t)), (1, .ref (ad t)), (2, .int (nI 0))]) S.1 S.2.1 dX1_takeOver_18 hl (by decide) rfl (fun ls hl => ?_)
  have L_20 : ∀ (d9 : Nat) (a : Nat) (c0 : Nat) (f2 : Nat → va_E) (H : Heap) (locs : List Loc), (TB G N ad f2 t n k v) → (Onl t f f2) → (c0 ≤ a ∧ a ≤ n) → c0 < d9 → ov_dy G N ad s0 s f2 H locs → ∀ ls : Array Slot, lv_has ls 7 [(0, .ref (ad t)), (1, .ref (ad t)), (2, .int (nI 0)), (3, .int (pI a)), (4, .int (pI a)), (5, .int (pI c0))] → W p l e (ov_rm 2 43 0 0) s m av below meth c H locs 0 0 Q (F0 m 20 ls []) := by
    intro d9
    induction d9 with
    | zero => intro a c0 f2 H locs hT hO hac h9; exact absurd h9 (Nat.not_lt_zero _)
    | succ d9 ih_20 =>
      intro a c0 f2 H locs hT hO hac h9 hG ls hl
      refine lv_iload S.1 S.2.1 dX1_takeOver_20 (lv_at hl 5 rfl) ?_
      refine lv_if_lt (tgt := 126) S.1 S.2.1 dX1_takeOver_22 (by decide) (fun c_22 => ?_) (fun c_22 => ?_)
      · skip
        refine lv_aload_n S.1 S.2.1 dX1_takeOver_126 rfl (lv_at hl 0 rfl) ?_
        refine lv_dup S.1 S.2.1 dX1_takeOver_127 rfl ?_
        refine o_get S hG i_X1 hT.lt0 hT.1 rfl 2 (by decide) kf_18 rfl dX1_takeOver_128 ?_
        refine lv_iload_n S.1 S.2.1 dX1_takeOver_131 rfl (lv_at hl 2 rfl) ?_
        refine o_add S (a := n) (b := 0) dX1_takeOver_132 ?_
        refine o_put S hG i_X1 tyX1_ok nmX1 hT.lt0 hT.1 rfl 2 (by decide) kf_18 rfl rfl rfl (Nat.le_of_ble_eq_true rfl) dX1_takeOver_133 (fun H locs hG => ?_)
        obtain ⟨f_1, ef_1, hG⟩ := ov_name hG
        have hT := hT.upn ef_1 (n2 := n + 0) (by omega)
        have hO := hO.up ef_1 (by omega)
        exact ret _ _ _ _ _ _ _ hG ⟨hT, hO⟩ (Nat.le_of_ble_eq_true rfl) (Nat.le_of_ble_eq_true rfl) dX1_takeOver_136
      · skip
        obtain ⟨c1, rfl⟩ := pI_pos (by omega) c_22
        simp only [pI_succ] at hl
        refine lv_aload_n S.1 S.2.1 dX1_takeOver_25 rfl (lv_at hl 1 rfl) ?_
        refine o_get S hG i_X1 hT.lt0 hT.1 rfl 0 (by decide) kf_9 rfl dX1_takeOver_26 ?_
        refine lv_iload S.1 S.2.1 dX1_takeOver_29 (lv_at hl 5 rfl) ?_
        refine o_iald S hG (j := c1) hT.lt1 hT.2.1 (by omega) dX1_takeOver_31 (kk := ?_)
        refine lv_istore (lv' := [(6, .int (k c1)), (0, .ref (ad t)), (1, .ref (ad t)), (2, .int (nI 0)), (3, .int (pI a)), (4, .int (pI a)), (5, .int (nI c1))]) S.1 S.2.1 dX1_takeOver_32 hl (by decide) rfl (fun ls hl => ?_)
        have L_34 : ∀ (d9 : Nat) (a : Nat) (f3 : Nat → va_E) (H : Heap) (locs : List Loc), (TB G N ad f3 t n k v) → (Onl t f f3) → (c1 + 1 ≤ a ∧ a ≤ n) → a < d9 → ov_dy G N ad s0 s f3 H locs → ∀ ls : Array Slot, lv_has ls 7 [(0, .ref (ad t)), (1, .ref (ad t)), (2, .int (nI 0)), (3, .int (pI a)), (4, .int (pI a)), (5, .int (nI c1)), (6, .int (k c1))] → W p l e (ov_rm 2 43 0 0) s m av below meth c H locs 0 0 Q (F0 m 34 ls []) := by
          intro d9
          induction d9 with
          | zero => intro a f3 H locs hT hO hac h9; exact absurd h9 (Nat.not_lt_zero _)
          | succ d9 ih_34 =>
            intro a f3 H locs hT hO hac h9 hG ls hl
            refine lv_iload_n S.1 S.2.1 dX1_takeOver_34 rfl (lv_at hl 3 rfl) ?_
            refine lv_if_lt (tgt := 84) S.1 S.2.1 dX1_takeOver_35 (by decide) (fun c_35 => ?_) (fun c_35 => ?_)
            · skip
              exact absurd (pI_neg (by omega) c_35) (by omega)
            · skip
              obtain ⟨a1, rfl⟩ := pI_pos (by omega) c_35
              simp only [pI_succ] at hl
              refine lv_aload_n S.1 S.2.1 dX1_takeOver_38 rfl (lv_at hl 0 rfl) ?_
              refine o_get S hG i_X1 hT.lt0 hT.1 rfl 0 (by decide) kf_9 rfl dX1_takeOver_39 ?_
              refine lv_iload_n S.1 S.2.1 dX1_takeOver_42 rfl (lv_at hl 3 rfl) ?_
              refine o_iald S hG (j := a1) hT.lt1 hT.2.1 (by omega) dX1_takeOver_43 (kk := ?_)
              refine lv_iload S.1 S.2.1 dX1_takeOver_44 (lv_at hl 6 rfl) ?_
              refine lv_icmp_le (tgt := 84) S.1 S.2.1 dX1_takeOver_46 (by decide) (fun c_46 => ?_) (fun c_46 => ?_)
              · skip
                refine lv_aload_n S.1 S.2.1 dX1_takeOver_84 rfl (lv_at hl 0 rfl) ?_
                refine lv_iload_n S.1 S.2.1 dX1_takeOver_85 rfl (lv_at hl 3 rfl) ?_
                refine lv_iload S.1 S.2.1 dX1_takeOver_86 (lv_at hl 6 rfl) ?_
                refine o_cVi S (rest := []) (c_X1_hasAt l G N ad s0 f3 t n k v (nI a1) (k c1) hT) (cwV 2 S.2.2.2.2 gX1_takeOver_X1_hasAt rfl rfl rfl (by decide +kernel) ⟨(Nat.le_of_ble_eq_true rfl), (Nat.le_of_ble_eq_true rfl)⟩) hG hT.lt0 hT.1 rfl rfl hl.1 rfl (Nat.le_of_ble_eq_true rfl) dX1_takeOver_88 ⟨(Nat.le_of_ble_eq_true rfl), (Nat.le_of_ble_eq_true rfl)⟩ (fun r9 f9 H locs hp hG => ?_)
                obtain ⟨rfl, rfl⟩ := hp
                refine b_if_ne S (b := (ha n k (nI a1) (k c1))) (tgt := 120) dX1_takeOver_91 (by decide) (fun c_91 => ?_) (fun c_91 => ?_)
                · skip
                  refine lv_iinc (v := (pI c1)) (lv' := [(5, .int (pI c1)), (0, .ref (ad t)), (1, .ref (ad t)), (2, .int (nI 0)), (3, .int (nI a1)), (4, .int (nI a1)), (6, .int (k c1))]) S.1 S.2.1 dX1_takeOver_120 hl (k := 5) rfl (pI_inc c1) (by decide) rfl (fun ls hl => ?_)
                  refine lv_goto (tgt := 20) S.1 S.2.1 dX1_takeOver_123 (by decide) ?_
                  rw [← pI_succ a1] at hl
                  exact ih_20 (a1 + 1) c1 f3 _ _ hT hO (by omega) (by omega) hG ls (lv_sub hl [1, 2, 3, 4, 5, 0] rfl)
                · skip
                  exact absurd c_91 (by rw [ha_nI (by omega), decide_eq_false_iff_not]; exact fun h => h ⟨by omega, by rw [show a1 = c1 from Classical.byContradiction fun h2 => i32_nlt c_46 (hSk c1 a1 (by omega) (by omega))]⟩)
              · skip
                refine lv_aload_n S.1 S.2.1 dX1_takeOver_49 rfl (lv_at hl 0 rfl) ?_
                refine o_get S hG i_X1 hT.lt0 hT.1 rfl 0 (by decide) kf_9 rfl dX1_takeOver_50 ?_
                refine lv_iload S.1 S.2.1 dX1_takeOver_53 (lv_at hl 4 rfl) ?_
                refine lv_aload_n S.1 S.2.1 dX1_takeOver_55 rfl (lv_at hl 0 rfl) ?_
                refine o_get S hG i_X1 hT.lt0 hT.1 rfl 0 (by decide) kf_9 rfl dX1_takeOver_56 ?_
                refine lv_iload_n S.1 S.2.1 dX1_takeOver_59 rfl (lv_at hl 3 rfl) ?_
                refine o_iald S hG (j := a1) hT.lt1 hT.2.1 (by omega) dX1_takeOver_60 (kk := ?_)
                refine o_iast S hG (j := a1) hT.lt1 hT.2.1 (by omega) dX1_takeOver_61 (kk := fun H locs hG => ?_)
                obtain ⟨f_2, ef_2, hG⟩ := ov_name hG
                have hT := hT.upk ef_2
                have hO := hO.up ef_2 (by omega)
                rw [upd_same] at hT
                refine lv_aload_n S.1 S.2.1 dX1_takeOver_62 rfl (lv_at hl 0 rfl) ?_
                refine o_get S hG i_X1 hT.lt0 hT.1 rfl 1 (by decide) kf_15 rfl dX1_takeOver_63 ?_
                refine lv_iload S.1 S.2.1 dX1_takeOver_66 (lv_at hl 4 rfl) ?_
                refine lv_aload_n S.1 S.2.1 dX1_takeOver_68 rfl (lv_at hl 0 rfl) ?_
                refine o_get S hG i_X1 hT.lt0 hT.1 rfl 1 (by decide) kf_15 rfl dX1_takeOver_69 ?_
                refine lv_iload_n S.1 S.2.1 dX1_takeOver_72 rfl (lv_at hl 3 rfl) ?_
                refine o_iald S hG (j := a1) hT.lt2 hT.2.2.1 (by omega) dX1_takeOver_73 (kk := ?_)
                refine o_iast S hG (j := a1) hT.lt2 hT.2.2.1 (by omega) dX1_takeOver_74 (kk := fun H locs hG => ?_)
                obtain ⟨f_3, ef_3, hG⟩ := ov_name hG
                have hT := hT.upv ef_3
                have hO := hO.up ef_3 (by omega)
                rw [upd_same] at hT
                refine lv_iinc (v := (pI a1)) (lv' := [(3, .int (pI a1)), (0, .ref (ad t)), (1, .ref (ad t)), (2, .int (nI 0)), (4, .int (nI a1)), (5, .int (nI c1)), (6, .int (k c1))]) S.1 S.2.1 dX1_takeOver_75 hl (k := 3) rfl (pI_inc a1) (by decide) rfl (fun ls hl => ?_)
                refine lv_iinc (v := (pI a1)) (lv' := [(4, .int (pI a1)), (3, .int (pI a1)), (0, .ref (ad t)), (1, .ref (ad t)), (2, .int (nI 0)), (5, .int (nI c1)), (6, .int (k c1))]) S.1 S.2.1 dX1_takeOver_78 hl (k := 4) rfl (pI_inc a1) (by decide) rfl (fun ls hl => ?_)
                refine lv_goto (tgt := 34) S.1 S.2.1 dX1_takeOver_81 (by decide) ?_
                exact ih_34 a1 f_3 _ _ hT hO (⟨srt_gt hSk c_46 (by omega) (by omega), by omega⟩) (by omega) hG ls (lv_sub hl [2, 3, 4, 1, 0, 5, 6] rfl)
        exact L_34 _ a f2 _ _ hT hO hac (Nat.lt_succ_self _) hG ls (lv_sub hl [1, 2, 3, 4, 5, 6, 0] rfl)
  exact L_20 _ n n f _ _ hT hO (⟨Nat.le_refl _, Nat.le_refl _⟩) (Nat.lt_succ_self _) hG ls (lv_sub hl [3, 4, 5, 2, 1, 0] rfl)
end
section
section OVMd
def zI (z : Int) : Int32 := Int32.ofInt z
theorem zI_nat (n : Nat) : zI (n : Int) = nI n := rfl
theorem zI_toInt {z : Int} (h1 : -2147483648 ≤ z) (h2 : z < 2147483648) : (zI z).toInt = z := by
  unfold zI; rw [Int32.toInt_ofInt, show Int32.size = 4294967296 from rfl]; exact Int.bmod_eq_of_le (by omega) (by omega)
theorem zI_add (a b : Int) : zI a + zI b = zI (a + b) := (Int32.ofInt_add a b).symm
theorem zI_sub (a b : Int) : zI a - zI b = zI (a - b) := (Int32.ofInt_sub a b).symm
theorem zI_pI (a : Nat) : pI a = zI ((a : Int) - 1) := by
  unfold pI; rw [← zI_nat, ← zI_nat, zI_sub]; rfl
/-- the reference's object at the cell 76, its rows behind it -/
def MB (G : Gx) (ad : Nat → Nat) (f : Nat → va_E) (cd : Nat) (K V : Nat → Int32) (sz : Nat → Nat) (th : Nat → Bool) (pl : Nat → Int) (dn : Nat → Bool) : Prop :=
  f 76 = .inr (3, [.int (nI cd), .ref (ad 77), .ref (ad 78), .ref (ad 79), .ref (ad 80), .ref (ad 81), .ref (ad 82)]) ∧ f 77 = eI G 12600 K ∧ f 78 = eI G 12600 V ∧ f 79 = eI G 21 (fun j => nI (sz j)) ∧ f 80 = eZ G 21 (fun j => bI (th j)) ∧ f 81 = eI G 8 (fun j => zI (pl j)) ∧ f 82 = eZ G 8 (fun j => bI (dn j))
def OnM (f f1 : Nat → va_E) : Prop := ∀ c : Nat, c < 76 ∨ 82 < c → f1 c = f c
theorem OnM.rf {f : Nat → va_E} : OnM f f := fun _ _ => rfl
theorem OnM.up {f f1 f2 : Nat → va_E} {c : Nat} {x : va_E} (h : OnM f f1) (e : f2 = va_up f1 c x) (hc : 76 ≤ c ∧ c ≤ 82) : OnM f f2 := by
  subst e
  intro d hd
  rw [va_up_ne _ _ (by omega)]
  exact h d hd
theorem OnM.tr {f f1 f2 : Nat → va_E} (h : OnM f f1) (h2 : OnM f1 f2) : OnM f f2 := fun c hc => (h2 c hc).trans (h c hc)
def of (K : Nat → Int32) (j : Nat) : Nat → Int32 := fun i => K (600 * j + i)
variable {G : Gx} {ad : Nat → Nat} {f f1 : Nat → va_E} {cd : Nat} {K V : Nat → Int32} {sz : Nat → Nat} {th : Nat → Bool} {pl : Nat → Int} {dn : Nat → Bool}
theorem MB.u0 {cd2 : Nat} (h : MB G ad f cd K V sz th pl dn) (e : f1 = va_up f 76 (.inr (3, [.int (nI cd2), .ref (ad 77), .ref (ad 78), .ref (ad 79), .ref (ad 80), .ref (ad 81), .ref (ad 82)]))) : MB G ad f1 cd2 K V sz th pl dn := by
  subst e
  obtain ⟨h0, h1, h2, h3, h4, h5, h6⟩ := h
  refine ⟨va_up_self .., ?_, ?_, ?_, ?_, ?_, ?_⟩ <;> (rw [va_up_ne _ _ (by decide)]; assumption)
theorem MB.uK {K2 : Nat → Int32} (h : MB G ad f cd K V sz th pl dn) (e : f1 = va_up f 77 (eI G 12600 K2)) : MB G ad f1 cd K2 V sz th pl dn := by
  subst e
  obtain ⟨h0, h1, h2, h3, h4, h5, h6⟩ := h
  refine ⟨?_, va_up_self .., ?_, ?_, ?_, ?_, ?_⟩ <;> (rw [va_up_ne _ _ (by decide)]; assumption)
theorem MB.uV {V2 : Nat → Int32} (h : MB G ad f cd K V sz th pl dn) (e : f1 = va_up f 78 (eI G 12600 V2)) : MB G ad f1 cd K V2 sz th pl dn := by
  subst e
  obtain ⟨h0, h1, h2, h3, h4, h5, h6⟩ := h
  refine ⟨?_, ?_, va_up_self .., ?_, ?_, ?_, ?_⟩ <;> (rw [va_up_ne _ _ (by decide)]; assumption)
theorem up_fun {α β : Type} (g : α → β) (h : Nat → α) (i : Nat) (x : α) (u : Nat → β) (hu : ∀ j, u j = if j = i then g x else g (h j)) : u = fun j => g (va_up h i x j) := by
  funext j
  rw [hu j]
  simp only [va_up]
  by_cases e : j = i
  · rw [if_pos e, if_pos e]
  · rw [if_neg e, if_neg e]
theorem MB.uZ {j n : Nat} (h : MB G ad f cd K V sz th pl dn) (e : f1 = va_up f 79 (eI G 21 (upd (fun j => nI (sz j)) j (nI n)))) : MB G ad f1 cd K V (va_up sz j n) th pl dn := by
  subst e
  obtain ⟨h0, h1, h2, h3, h4, h5, h6⟩ := h
  rw [up_fun nI sz j n (upd (fun j => nI (sz j)) j (nI n)) (fun i => by simp only [upd])]
  refine ⟨?_, ?_, ?_, va_up_self .., ?_, ?_, ?_⟩ <;> (rw [va_up_ne _ _ (by decide)]; assumption)
theorem MB.uT {j : Nat} {b : Bool} (h : MB G ad f cd K V sz th pl dn) (e : f1 = va_up f 80 (eZ G 21 (upd (fun j => bI (th j)) j (bI b)))) : MB G ad f1 cd K V sz (va_up th j b) pl dn := by
  subst e
  obtain ⟨h0, h1, h2, h3, h4, h5, h6⟩ := h
  rw [up_fun bI th j b (upd (fun j => bI (th j)) j (bI b)) (fun i => by simp only [upd])]
  refine ⟨?_, ?_, ?_, ?_, va_up_self .., ?_, ?_⟩ <;> (rw [va_up_ne _ _ (by decide)]; assumption)
theorem MB.uP {j : Nat} {z : Int} (h : MB G ad f cd K V sz th pl dn) (e : f1 = va_up f 81 (eI G 8 (upd (fun j => zI (pl j)) j (zI z)))) : MB G ad f1 cd K V sz th (va_up pl j z) dn := by
  subst e
  obtain ⟨h0, h1, h2, h3, h4, h5, h6⟩ := h
  rw [up_fun zI pl j z (upd (fun j => zI (pl j)) j (zI z)) (fun i => by simp only [upd])]
  refine ⟨?_, ?_, ?_, ?_, ?_, va_up_self .., ?_⟩ <;> (rw [va_up_ne _ _ (by decide)]; assumption)
theorem MB.uD {j : Nat} {b : Bool} (h : MB G ad f cd K V sz th pl dn) (e : f1 = va_up f 82 (eZ G 8 (upd (fun j => bI (dn j)) j (bI b)))) : MB G ad f1 cd K V sz th pl (va_up dn j b) := by
  subst e
  obtain ⟨h0, h1, h2, h3, h4, h5, h6⟩ := h
  rw [up_fun bI dn j b (upd (fun j => bI (dn j)) j (bI b)) (fun i => by simp only [upd])]
  refine ⟨?_, ?_, ?_, ?_, ?_, ?_, va_up_self ..⟩ <;> (rw [va_up_ne _ _ (by decide)]; assumption)
/-! versions and cursors by their numbers -/
def isv (th : Nat → Bool) (v : Int32) : Bool := decide (0 ≤ v.toInt ∧ v.toInt ≤ 12) && th v.toInt.toNat
def iss (th : Nat → Bool) (v : Int32) : Bool := decide (0 < v.toInt ∧ v.toInt ≤ 12) && th v.toInt.toNat
def isc (th : Nat → Bool) (v : Int32) : Bool := decide (0 ≤ v.toInt ∧ v.toInt < 8) && th (13 + v.toInt.toNat)
theorem isv_nI {j : Nat} (h : j ≤ 12) : isv th (nI j) = th j := by
  unfold isv; rw [nI_toInt (by omega), decide_eq_true (by omega)]; simp
theorem isc_nI {j : Nat} (h : j < 8) : isc th (nI j) = th (13 + j) := by
  unfold isc; rw [nI_toInt (by omega), decide_eq_true (by omega)]; simp
theorem iss_nI {j : Nat} (h : j ≤ 12) (h1 : 1 ≤ j) : iss th (nI j) = th j := by
  unfold iss; rw [nI_toInt (by omega), decide_eq_true (by omega)]; simp
theorem isv_ex {v : Int32} (h : isv th v = true) : ∃ j, j ≤ 12 ∧ v = nI j ∧ th j = true := by
  simp only [isv, Bool.and_eq_true, decide_eq_true_eq] at h
  exact ⟨v.toInt.toNat, by omega, nI_of_toInt (by omega) (by omega), h.2⟩
theorem iss_ex {v : Int32} (h : iss th v = true) : ∃ j, 1 ≤ j ∧ j ≤ 12 ∧ v = nI j ∧ th j = true := by
  simp only [iss, Bool.and_eq_true, decide_eq_true_eq] at h
  exact ⟨v.toInt.toNat, by omega, by omega, nI_of_toInt (by omega) (by omega), h.2⟩
theorem isc_ex {v : Int32} (h : isc th v = true) : ∃ j, j < 8 ∧ v = nI j ∧ th (13 + j) = true := by
  simp only [isc, Bool.and_eq_true, decide_eq_true_eq] at h
  exact ⟨v.toInt.toNat, by omega, nI_of_toInt (by omega) (by omega), h.2⟩
theorem isv_f1 {v : Int32} (h : v < 0) : isv th v = false := by
  rw [i32_lt, Int32.toInt_zero] at h
  simp only [isv, Bool.and_eq_false_iff, decide_eq_false_iff_not]; left; omega
theorem isv_f2 {v : Int32} (h : nI 12 < v) : isv th v = false := by
  rw [i32_lt, nI_toInt (by decide)] at h
  simp only [isv, Bool.and_eq_false_iff, decide_eq_false_iff_not]; left; omega
theorem iss_f1 {v : Int32} (h : v ≤ 0) : iss th v = false := by
  rw [i32_le, Int32.toInt_zero] at h
  simp only [iss, Bool.and_eq_false_iff, decide_eq_false_iff_not]; left; omega
theorem iss_isv {v : Int32} (h : ¬ v ≤ 0) : iss th v = isv th v := by
  rw [i32_le, Int32.toInt_zero] at h
  have e1 : decide (0 < v.toInt ∧ v.toInt ≤ 12) = decide (0 ≤ v.toInt ∧ v.toInt ≤ 12) := by congr 1; apply propext; omega
  simp only [iss, isv, e1]
theorem isc_f1 {v : Int32} (h : v < 0) : isc th v = false := by
  rw [i32_lt, Int32.toInt_zero] at h
  simp only [isc, Bool.and_eq_false_iff, decide_eq_false_iff_not]; left; omega
theorem isc_f2 {v : Int32} (h : nI 8 ≤ v) : isc th v = false := by
  rw [i32_le, nI_toInt (by decide)] at h
  simp only [isc, Bool.and_eq_false_iff, decide_eq_false_iff_not]; left; omega
theorem v_ex {v : Int32} {m : Nat} (hm : m < 2 ^ 31) (h1 : ¬ v < 0) (h2 : ¬ nI m < v) : ∃ j, j ≤ m ∧ v = nI j := by
  rw [i32_lt, Int32.toInt_zero] at h1
  rw [i32_lt, nI_toInt hm] at h2
  exact ⟨v.toInt.toNat, by omega, nI_of_toInt (by omega) (by omega)⟩
theorem v_ex2 {v : Int32} {m : Nat} (hm : m < 2 ^ 31) (h1 : ¬ v < 0) (h2 : ¬ nI m ≤ v) : ∃ j, j < m ∧ v = nI j := by
  rw [i32_lt, Int32.toInt_zero] at h1
  rw [i32_le, nI_toInt hm] at h2
  exact ⟨v.toInt.toNat, by omega, nI_of_toInt (by omega) (by omega)⟩
theorem nI_dec {z : Nat} (h : 1 ≤ z) : nI z + Int32.ofInt (-1) = nI (z - 1) := by
  obtain ⟨y, rfl⟩ : ∃ y, z = y + 1 := ⟨z - 1, by omega⟩
  rw [pI_inc, pI_succ]; rfl
/-- the reference's shifting up, under way: z down from s to a -/
def ShU (k kk : Nat → Int32) (z s : Nat) : Prop := (∀ i, i ≤ z → kk i = k i) ∧ (∀ i, z < i → i ≤ s → kk i = k (i - 1)) ∧ ∀ i, s < i → kk i = k i
theorem ShU_0 {k : Nat → Int32} {s : Nat} : ShU k k s s := ⟨fun _ _ => rfl, fun i h1 h2 => absurd h1 (by omega), fun _ _ => rfl⟩
theorem ShU_s {k kk : Nat → Int32} {z s : Nat} (h : ShU k kk z s) (hz : 1 ≤ z) (hs : z ≤ s) : ShU k (upd kk z (kk (z - 1))) (z - 1) s := by
  obtain ⟨h1, h2, h3⟩ := h
  refine ⟨fun i hi => ?_, fun i g1 g2 => ?_, fun i hi => ?_⟩
  · simp only [upd]; rw [if_neg (by omega)]; exact h1 i (by omega)
  · simp only [upd]
    by_cases e : i = z
    · rw [if_pos e, h1 (z - 1) (by omega), e]
    · rw [if_neg e]; exact h2 i (by omega) g2
  · simp only [upd]; rw [if_neg (by omega)]; exact h3 i hi
theorem ShU_e {k kk : Nat → Int32} {a s : Nat} {x : Int32} (h : ShU k kk a s) (ha : a ≤ s) : (∀ i, i < s + 1 → upd kk a x i = insF k a x i) ∧ ∀ i, s < i → upd kk a x i = k i := by
  obtain ⟨h1, h2, h3⟩ := h
  refine ⟨fun i hi => ?_, fun i hi => ?_⟩
  · simp only [upd, insF]
    by_cases e : i = a
    · rw [if_pos e, if_neg (by omega), if_pos e]
    · rw [if_neg e]
      by_cases g : i < a
      · rw [if_pos g]; exact h1 i (by omega)
      · rw [if_neg g, if_neg e]; exact h2 i (by omega) (by omega)
  · simp only [upd]; rw [if_neg (by omega)]; exact h3 i hi
/-- the reference's shifting down, under way -/
def ShD (k kk : Nat → Int32) (a d z : Nat) : Prop := (∀ i, i < a → kk i = k i) ∧ (∀ i, a ≤ i → i < z → kk i = k (i + d)) ∧ ∀ i, z ≤ i → kk i = k i
theorem ShD_0 {k : Nat → Int32} {a d : Nat} : ShD k k a d a := ⟨fun _ _ => rfl, fun i h1 h2 => absurd h1 (by omega), fun _ _ => rfl⟩
theorem ShD_s {k kk : Nat → Int32} {a d z : Nat} (h : ShD k kk a d z) (hz : a ≤ z) : ShD k (upd kk z (kk (z + d))) a d (z + 1) := by
  obtain ⟨h1, h2, h3⟩ := h
  refine ⟨fun i hi => ?_, fun i g1 g2 => ?_, fun i hi => ?_⟩
  · simp only [upd]; rw [if_neg (by omega)]; exact h1 i hi
  · simp only [upd]
    by_cases e : i = z
    · rw [if_pos e, h3 (z + d) (by omega), e]
    · rw [if_neg e]; exact h2 i g1 (by omega)
  · simp only [upd]; rw [if_neg (by omega)]; exact h3 i (by omega)
/-- the reference's copying, under way -/
def CpU (k kk : Nat → Int32) (j d z : Nat) : Prop := (∀ i, i < z → kk (600 * d + i) = k (600 * j + i)) ∧ ∀ x, x < 600 * d ∨ 600 * d + z ≤ x → kk x = k x
theorem CpU_0 {k : Nat → Int32} {j d : Nat} : CpU k k j d 0 := ⟨fun i h => absurd h (by omega), fun _ _ => rfl⟩
theorem CpU_s {k kk : Nat → Int32} {j d z : Nat} (h : CpU k kk j d z) (hz : z < 600) (hjd : j ≠ d) : CpU k (upd kk (600 * d + z) (kk (600 * j + z))) j d (z + 1) := by
  obtain ⟨h1, h2⟩ := h
  have h3 : kk (600 * j + z) = k (600 * j + z) := h2 _ (by omega)
  refine ⟨fun i hi => ?_, fun x hx => ?_⟩
  · simp only [upd]
    by_cases e : i = z
    · rw [e, if_pos rfl]; exact h3
    · rw [if_neg (by omega)]; exact h1 i (by omega)
  · simp only [upd]; rw [if_neg (by omega)]; exact h2 x (by omega)
end OVMd
end
section
set_option maxHeartbeats 4000000 in
set_option maxRecDepth 100000 in
theorem c_X3_below (l : Launch) (G : Gx) (ad : Nat → Nat) (s0 : Nat) (f : Nat → va_E) (cd : Nat) (K V : Nat → Int32) (sz : Nat → Nat) (th : Nat → Bool) (pl : Nat → Int) (dn : Nat → Bool) (j : Nat) (key : Int32) (hM : MB G ad f cd K V sz th pl dn) (hj : j < 21) (hn : sz j ≤ 600) : mI l yX3_below wsX3_below 0 0 0 0 [.ref (ad 76), .int (nI j), .int key] G 84 ad s0 f (fun r f' => f = f' ∧ r = nI (bel (sz j) (of K j) key)) := by
  refine ov_mI (cc := cX3_below) (maxL := 4) (ty := .int) (by decide) rfl (Nat.le_of_ble_eq_true rfl) ?_
  intro p e s m below meth c av Q S ret hG ls hl
  have S : CallFix p m c cX3_below 4 s av wsX3_below RX3 := S
  have hl : lv_has ls 4 [(0, .ref (ad 76)), (1, .int (nI j)), (2, .int key)] := hl
  have i_X3 : ∀ w ∈ u_ws RX3 TX3 7, w ∈ wsX3_below := by decide +kernel
  have kf_7 := S.2.2.2.2 (.fieldLink RX3 7 "OrderedVersionsModel" "keys" "[I") (by decide +kernel)
  have kf_16 := S.2.2.2.2 (.fieldLink RX3 16 "OrderedVersionsModel" "sizes" "[I") (by decide +kernel)
  refine lv_iconst (v := (nI 0)) S.1 S.2.1 dX3_below_0 (by decide) ?_
  refine lv_istore_n (lv' := [(3, .int (nI 0)), (0, .ref (ad 76)), (1, .int (nI j)), (2, .int key)]) S.1 S.2.1 dX3_below_1 rfl hl (by decide) rfl (fun ls hl => ?_)
  have L_2 : ∀ (d9 : Nat) (i : Nat) (H : Heap) (locs : List Loc), (i ≤ sz j) → (∀ z, z < i → of K j z < key) → (sz j - i) < d9 → ov_dy G 84 ad s0 s f H locs → ∀ ls : Array Slot, lv_has ls 4 [(0, .ref (ad 76)), (1, .int (nI j)), (2, .int key), (3, .int (nI i))] → W p l e (ov_rm 0 0 0 0) s m av below meth c H locs 0 0 Q (F0 m 2 ls []) := by
    intro d9
    induction d9 with
    | zero => intro i H locs hi hlo h9; exact absurd h9 (Nat.not_lt_zero _)
    | succ d9 ih_2 =>
      intro i H locs hi hlo h9 hG ls hl
      refine lv_iload_n S.1 S.2.1 dX3_below_2 rfl (lv_at hl 3 rfl) ?_
      refine lv_aload_n S.1 S.2.1 dX3_below_3 rfl (lv_at hl 0 rfl) ?_
      refine o_get S hG i_X3 (by decide) hM.1 rfl 3 (by decide) kf_16 rfl dX3_below_4 ?_
      refine lv_iload_n S.1 S.2.1 dX3_below_7 rfl (lv_at hl 1 rfl) ?_
      refine o_iald S hG (j := j) (by decide) hM.2.2.2.1 (by omega) dX3_below_8 (kk := ?_)
      refine n_ge S (a := i) (b := sz j) (tgt := 34) dX3_below_9 (by decide) (by omega) (by omega) (fun c_9 => ?_) (fun c_9 => ?_)
      · skip
        refine lv_iload_n S.1 S.2.1 dX3_below_34 rfl (lv_at hl 3 rfl) ?_
        exact ret _ _ _ _ _ _ _ _ hG ⟨rfl, by rw [bel_eq (sz j) (of K j) key i hi hlo (fun h => absurd h (by omega))]⟩ rfl (Nat.le_of_ble_eq_true rfl) (Nat.le_of_ble_eq_true rfl) dX3_below_35
      · skip
        refine lv_aload_n S.1 S.2.1 dX3_below_12 rfl (lv_at hl 0 rfl) ?_
        refine o_get S hG i_X3 (by decide) hM.1 rfl 1 (by decide) kf_7 rfl dX3_below_13 ?_
        refine lv_sipush (v := (nI 600)) S.1 S.2.1 dX3_below_16 (by decide) ?_
        refine lv_iload_n S.1 S.2.1 dX3_below_19 rfl (lv_at hl 1 rfl) ?_
        refine o_mul S (a := 600) (b := j) dX3_below_20 ?_
        refine lv_iload_n S.1 S.2.1 dX3_below_21 rfl (lv_at hl 3 rfl) ?_
        refine o_add S (a := 600 * j) (b := i) dX3_below_22 ?_
        refine o_iald S hG (j := (600 * j) + i) (by decide) hM.2.1 (by omega) dX3_below_23 (kk := ?_)
        refine lv_iload_n S.1 S.2.1 dX3_below_24 rfl (lv_at hl 2 rfl) ?_
        refine lv_icmp_ge (tgt := 34) S.1 S.2.1 dX3_below_25 (by decide) (fun c_25 => ?_) (fun c_25 => ?_)
        · skip
          refine lv_iload_n S.1 S.2.1 dX3_below_34 rfl (lv_at hl 3 rfl) ?_
          exact ret _ _ _ _ _ _ _ _ hG ⟨rfl, by rw [bel_eq (sz j) (of K j) key i hi hlo (fun _ => i32_nlt c_25)]⟩ rfl (Nat.le_of_ble_eq_true rfl) (Nat.le_of_ble_eq_true rfl) dX3_below_35
        · skip
          refine lv_iinc (v := (nI (i + 1))) (lv' := [(3, .int (nI (i + 1))), (0, .ref (ad 76)), (1, .int (nI j)), (2, .int key)]) S.1 S.2.1 dX3_below_28 hl (k := 3) rfl (nI_add i 1) (by decide) rfl (fun ls hl => ?_)
          refine lv_goto (tgt := 2) S.1 S.2.1 dX3_below_31 (by decide) ?_
          exact ih_2 (i + 1) _ _ (by omega) (lt_s hlo (i32_of_nle c_25)) (by omega) hG ls (lv_sub hl [1, 2, 3, 0] rfl)
  exact L_2 _ 0 _ _ (Nat.zero_le _) (fun z h => absurd h (Nat.not_lt_zero _)) (Nat.lt_succ_self _) hG ls (lv_sub hl [1, 2, 3, 0] rfl)

set_option maxHeartbeats 4000000 in
set_option maxRecDepth 100000 in
theorem c_X3_has (l : Launch) (G : Gx) (ad : Nat → Nat) (s0 : Nat) (f : Nat → va_E) (cd : Nat) (K V : Nat → Int32) (sz : Nat → Nat) (th : Nat → Bool) (pl : Nat → Int) (dn : Nat → Bool) (j : Nat) (key : Int32) (hM : MB G ad f cd K V sz th pl dn) (hj : j < 21) (hn : sz j ≤ 600) : mI l yX3_has wsX3_has 1 23 0 0 [.ref (ad 76), .int (nI j), .int key] G 84 ad s0 f (fun r f' => f = f' ∧ r = bI (hs (sz j) (of K j) key)) := by
  refine ov_mI (cc := cX3_has) (maxL := 4) (ty := .boolean) (by decide) rfl (Nat.le_of_ble_eq_true rfl) ?_
  intro p e s m below meth c av Q S ret hG ls hl
  have S : CallFix p m c cX3_has 4 s av wsX3_has RX3 := S
  have hl : lv_has ls 4 [(0, .ref (ad 76)), (1, .int (nI j)), (2, .int key)] := hl
  have i_X3 : ∀ w ∈ u_ws RX3 TX3 7, w ∈ wsX3_has := by decide +kernel
  have kf_7 := S.2.2.2.2 (.fieldLink RX3 7 "OrderedVersionsModel" "keys" "[I") (by decide +kernel)
  have kf_16 := S.2.2.2.2 (.fieldLink RX3 16 "OrderedVersionsModel" "sizes" "[I") (by decide +kernel)
  refine lv_aload_n S.1 S.2.1 dX3_has_0 rfl (lv_at hl 0 rfl) ?_
  refine lv_iload_n S.1 S.2.1 dX3_has_1 rfl (lv_at hl 1 rfl) ?_
  refine lv_iload_n S.1 S.2.1 dX3_has_2 rfl (lv_at hl 2 rfl) ?_
  refine o_cVi S (rest := []) (c_X3_below l G ad s0 f cd K V sz th pl dn j key hM (by omega) (by omega)) (cwV 2 S.2.2.2.2 gX3_has_X3_below rfl rfl rfl (by decide +kernel) ⟨(Nat.le_of_ble_eq_true rfl), (Nat.le_of_ble_eq_true rfl)⟩) hG (by decide) hM.1 rfl rfl hl.1 rfl (Nat.le_of_ble_eq_true rfl) dX3_has_3 ⟨(Nat.le_of_ble_eq_true rfl), (Nat.le_of_ble_eq_true rfl)⟩ (fun r9 f9 H locs hp hG => ?_)
  obtain ⟨rfl, rfl⟩ := hp
  have lb_1 := bel_le (sz j) (of K j) key
  refine lv_istore_n (lv' := [(3, .int (nI (bel (sz j) (of K j) key))), (0, .ref (ad 76)), (1, .int (nI j)), (2, .int key)]) S.1 S.2.1 dX3_has_6 rfl hl (by decide) rfl (fun ls hl => ?_)
  refine lv_iload_n S.1 S.2.1 dX3_has_7 rfl (lv_at hl 0 rfl) ?_
  refine lv_aload_n S.1 S.2.1 dX3_has_8 rfl (lv_at hl 1 rfl) ?_
  refine o_get S hG i_X3 (by decide) hM.1 rfl 3 (by decide) kf_16 rfl dX3_has_9 ?_
  refine lv_iload_n S.1 S.2.1 dX3_has_12 rfl (lv_at hl 2 rfl) ?_
  refine o_iald S hG (j := j) (by decide) hM.2.2.2.1 (by omega) dX3_has_13 (kk := ?_)
  refine n_ge S (a := bel (sz j) (of K j) key) (b := sz j) (tgt := 37) dX3_has_14 (by decide) (by omega) (by omega) (fun c_14 => ?_) (fun c_14 => ?_)
  · skip
    refine lv_iconst (v := (nI 0)) S.1 S.2.1 dX3_has_37 (by decide) ?_
    exact ret _ _ _ _ _ _ _ _ hG ⟨rfl, bI_f (decide_eq_false fun q => absurd q.1 (by omega))⟩ rfl (Nat.le_of_ble_eq_true rfl) (Nat.le_of_ble_eq_true rfl) dX3_has_38
  · skip
    refine lv_aload_n S.1 S.2.1 dX3_has_17 rfl (lv_at hl 1 rfl) ?_
    refine o_get S hG i_X3 (by decide) hM.1 rfl 1 (by decide) kf_7 rfl dX3_has_18 ?_
    refine lv_sipush (v := (nI 600)) S.1 S.2.1 dX3_has_21 (by decide) ?_
    refine lv_iload_n S.1 S.2.1 dX3_has_24 rfl (lv_at hl 2 rfl) ?_
    refine o_mul S (a := 600) (b := j) dX3_has_25 ?_
    refine lv_iload_n S.1 S.2.1 dX3_has_26 rfl (lv_at hl 0 rfl) ?_
    refine o_add S (a := 600 * j) (b := bel (sz j) (of K j) key) dX3_has_27 ?_
    refine o_iald S hG (j := (600 * j) + (bel (sz j) (of K j) key)) (by decide) hM.2.1 (by omega) dX3_has_28 (kk := ?_)
    refine lv_iload_n S.1 S.2.1 dX3_has_29 rfl (lv_at hl 3 rfl) ?_
    refine lv_icmp_ne (tgt := 37) S.1 S.2.1 dX3_has_30 (by decide) (fun c_30 => ?_) (fun c_30 => ?_)
    · skip
      refine lv_iconst (v := (nI 0)) S.1 S.2.1 dX3_has_37 (by decide) ?_
      exact ret _ _ _ _ _ _ _ _ hG ⟨rfl, bI_f (decide_eq_false fun q => c_30 q.2)⟩ rfl (Nat.le_of_ble_eq_true rfl) (Nat.le_of_ble_eq_true rfl) dX3_has_38
    · skip
      refine lv_iconst (v := (nI 1)) S.1 S.2.1 dX3_has_33 (by decide) ?_
      refine lv_goto (tgt := 38) S.1 S.2.1 dX3_has_34 (by decide) ?_
      exact ret _ _ _ _ _ _ _ _ hG ⟨rfl, bI_t (decide_eq_true ⟨by omega, c_30⟩)⟩ rfl (Nat.le_of_ble_eq_true rfl) (Nat.le_of_ble_eq_true rfl) dX3_has_38

set_option maxHeartbeats 4000000 in
set_option maxRecDepth 100000 in
theorem c_X3_upTo (l : Launch) (G : Gx) (ad : Nat → Nat) (s0 : Nat) (f : Nat → va_E) (cd : Nat) (K V : Nat → Int32) (sz : Nat → Nat) (th : Nat → Bool) (pl : Nat → Int) (dn : Nat → Bool) (j : Nat) (key : Int32) (hM : MB G ad f cd K V sz th pl dn) (hj : j < 21) (hn : sz j ≤ 600) : mI l yX3_upTo wsX3_upTo 2 46 0 0 [.ref (ad 76), .int (nI j), .int key] G 84 ad s0 f (fun r f' => f = f' ∧ r = nI (upt (sz j) (of K j) key)) := by
  refine ov_mI (cc := cX3_upTo) (maxL := 3) (ty := .int) (by decide) rfl (Nat.le_of_ble_eq_true rfl) ?_
  intro p e s m below meth c av Q S ret hG ls hl
  have S : CallFix p m c cX3_upTo 3 s av wsX3_upTo RX3 := S
  have hl : lv_has ls 3 [(0, .ref (ad 76)), (1, .int (nI j)), (2, .int key)] := hl
  refine lv_aload_n S.1 S.2.1 dX3_upTo_0 rfl (lv_at hl 0 rfl) ?_
  refine lv_iload_n S.1 S.2.1 dX3_upTo_1 rfl (lv_at hl 1 rfl) ?_
  refine lv_iload_n S.1 S.2.1 dX3_upTo_2 rfl (lv_at hl 2 rfl) ?_
  refine o_cVi S (rest := []) (c_X3_below l G ad s0 f cd K V sz th pl dn j key hM (by omega) (by omega)) (cwV 2 S.2.2.2.2 gX3_upTo_X3_below rfl rfl rfl (by decide +kernel) ⟨(Nat.le_of_ble_eq_true rfl), (Nat.le_of_ble_eq_true rfl)⟩) hG (by decide) hM.1 rfl rfl hl.1 rfl (Nat.le_of_ble_eq_true rfl) dX3_upTo_3 ⟨(Nat.le_of_ble_eq_true rfl), (Nat.le_of_ble_eq_true rfl)⟩ (fun r9 f9 H locs hp hG => ?_)
  obtain ⟨rfl, rfl⟩ := hp
  have lb_1 := bel_le (sz j) (of K j) key
  refine lv_aload_n S.1 S.2.1 dX3_upTo_6 rfl (lv_at hl 0 rfl) ?_
  refine lv_iload_n S.1 S.2.1 dX3_upTo_7 rfl (lv_at hl 1 rfl) ?_
  refine lv_iload_n S.1 S.2.1 dX3_upTo_8 rfl (lv_at hl 2 rfl) ?_
  refine o_cVi S (rest := [.int (nI (bel (sz j) (of K j) key))]) (c_X3_has l G ad s0 f cd K V sz th pl dn j key hM (by omega) (by omega)) (cwV 2 S.2.2.2.2 gX3_upTo_X3_has rfl rfl rfl (by decide +kernel) ⟨(Nat.le_of_ble_eq_true rfl), (Nat.le_of_ble_eq_true rfl)⟩) hG (by decide) hM.1 rfl rfl hl.1 rfl (Nat.le_of_ble_eq_true rfl) dX3_upTo_9 ⟨(Nat.le_of_ble_eq_true rfl), (Nat.le_of_ble_eq_true rfl)⟩ (fun r9 f9 H locs hp hG => ?_)
  obtain ⟨rfl, rfl⟩ := hp
  refine b_if_eq S (b := (hs (sz j) (of K j) key)) (tgt := 19) dX3_upTo_12 (by decide) (fun c_12 => ?_) (fun c_12 => ?_)
  · skip
    refine lv_iconst (v := (nI 0)) S.1 S.2.1 dX3_upTo_19 (by decide) ?_
    refine o_add S (a := bel (sz j) (of K j) key) (b := 0) dX3_upTo_20 ?_
    exact ret _ _ _ _ _ _ _ _ hG ⟨rfl, by unfold upt; rw [ha_bel hn, if_neg (Bool.eq_false_iff.mp c_12)]⟩ rfl (Nat.le_of_ble_eq_true rfl) (Nat.le_of_ble_eq_true rfl) dX3_upTo_21
  · skip
    refine lv_iconst (v := (nI 1)) S.1 S.2.1 dX3_upTo_15 (by decide) ?_
    refine lv_goto (tgt := 20) S.1 S.2.1 dX3_upTo_16 (by decide) ?_
    refine o_add S (a := bel (sz j) (of K j) key) (b := 1) dX3_upTo_20 ?_
    exact ret _ _ _ _ _ _ _ _ hG ⟨rfl, by unfold upt; rw [ha_bel hn, if_pos c_12]⟩ rfl (Nat.le_of_ble_eq_true rfl) (Nat.le_of_ble_eq_true rfl) dX3_upTo_21

set_option maxHeartbeats 4000000 in
set_option maxRecDepth 100000 in
theorem c_X3_insert (l : Launch) (G : Gx) (ad : Nat → Nat) (s0 : Nat) (f : Nat → va_E) (cd : Nat) (K V : Nat → Int32) (sz : Nat → Nat) (th : Nat → Bool) (pl : Nat → Int) (dn : Nat → Bool) (key w : Int32) (hM : MB G ad f cd K V sz th pl dn) (hn : sz 0 < 600) : mV l yX3_insert wsX3_insert 1 23 0 0 [.ref (ad 76), .int key, .int w] G 84 ad s0 f (fun f' => OnM f f' ∧ ∃ K2 V2, MB G ad f' cd K2 V2 (va_up sz 0 (sz 0 + 1)) th pl dn ∧ (∀ i, i < sz 0 + 1 → K2 i = insF K (bel (sz 0) (of K 0) key) key i ∧ V2 i = insF V (bel (sz 0) (of K 0) key) w i) ∧ ∀ i, 600 ≤ i → K2 i = K i ∧ V2 i = V i) := by
  refine ov_mV (cc := cX3_insert) (maxL := 5) (by decide) rfl (Nat.le_of_ble_eq_true rfl) ?_
  intro p e s m below meth c av Q S ret hG ls hl
  have S : CallFix p m c cX3_insert 5 s av wsX3_insert RX3 := S
  have hl : lv_has ls 5 [(0, .ref (ad 76)), (1, .int key), (2, .int w)] := hl
  have i_X3 : ∀ w ∈ u_ws RX3 TX3 7, w ∈ wsX3_insert := by decide +kernel
  have kf_7 := S.2.2.2.2 (.fieldLink RX3 7 "OrderedVersionsModel" "keys" "[I") (by decide +kernel)
  have kf_13 := S.2.2.2.2 (.fieldLink RX3 13 "OrderedVersionsModel" "values" "[I") (by decide +kernel)
  have kf_16 := S.2.2.2.2 (.fieldLink RX3 16 "OrderedVersionsModel" "sizes" "[I") (by decide +kernel)
  have hO : OnM f f := OnM.rf
  refine lv_aload_n S.1 S.2.1 dX3_insert_0 rfl (lv_at hl 0 rfl) ?_
  refine lv_iconst (v := (nI 0)) S.1 S.2.1 dX3_insert_1 (by decide) ?_
  refine lv_iload_n S.1 S.2.1 dX3_insert_2 rfl (lv_at hl 1 rfl) ?_
  refine o_cVi S (rest := []) (c_X3_below l G ad s0 f cd K V sz th pl dn 0 key hM (by omega) (by omega)) (cwV 2 S.2.2.2.2 gX3_insert_X3_below rfl rfl rfl (by decide +kernel) ⟨(Nat.le_of_ble_eq_true rfl), (Nat.le_of_ble_eq_true rfl)⟩) hG (by decide) hM.1 rfl rfl hl.1 rfl (Nat.le_of_ble_eq_true rfl) dX3_insert_3 ⟨(Nat.le_of_ble_eq_true rfl), (Nat.le_of_ble_eq_true rfl)⟩ (fun r9 f9 H locs hp hG => ?_)
  obtain ⟨rfl, rfl⟩ := hp
  have lb_1 := bel_le (sz 0) (of K 0) key
  refine lv_istore_n (lv' := [(3, .int (nI (bel (sz 0) (of K 0) key))), (0, .ref (ad 76)), (1, .int key), (2, .int w)]) S.1 S.2.1 dX3_insert_6 rfl hl (by decide) rfl (fun ls hl => ?_)
  refine lv_aload_n S.1 S.2.1 dX3_insert_7 rfl (lv_at hl 1 rfl) ?_
  refine o_get S hG i_X3 (by decide) hM.1 rfl 3 (by decide) kf_16 rfl dX3_insert_8 ?_
  refine lv_iconst (v := (nI 0)) S.1 S.2.1 dX3_insert_11 (by decide) ?_
  refine o_iald S hG (j := 0) (by decide) hM.2.2.2.1 (by omega) dX3_insert_12 (kk := ?_)
  refine lv_istore (lv' := [(4, .int (nI (sz 0))), (3, .int (nI (bel (sz 0) (of K 0) key))), (0, .ref (ad 76)), (1, .int key), (2, .int w)]) S.1 S.2.1 dX3_insert_13 hl (by decide) rfl (fun ls hl => ?_)
  have L_15 : ∀ (d9 : Nat) (z : Nat) (kk : Nat → Int32) (vv : Nat → Int32) (f2 : Nat → va_E) (H : Heap) (locs : List Loc), (MB G ad f2 cd kk vv sz th pl dn) → (OnM f f2) → (bel (sz 0) (of K 0) key ≤ z ∧ z ≤ sz 0) → (ShU K kk z (sz 0)) → (ShU V vv z (sz 0)) → z < d9 → ov_dy G 84 ad s0 s f2 H locs → ∀ ls : Array Slot, lv_has ls 5 [(0, .ref (ad 76)), (1, .int key), (2, .int w), (3, .int (nI (bel (sz 0) (of K 0) key))), (4, .int (nI z))] → W p l e (ov_rm 1 23 0 0) s m av below meth c H locs 0 0 Q (F0 m 15 ls []) := by
    intro d9
    induction d9 with
    | zero => intro z kk vv f2 H locs hM hO hz hk hv h9; exact absurd h9 (Nat.not_lt_zero _)
    | succ d9 ih_15 =>
      intro z kk vv f2 H locs hM hO hz hk hv h9 hG ls hl
      refine lv_iload S.1 S.2.1 dX3_insert_15 (lv_at hl 4 rfl) ?_
      refine lv_iload_n S.1 S.2.1 dX3_insert_17 rfl (lv_at hl 3 rfl) ?_
      refine n_le S (a := z) (b := bel (sz 0) (of K 0) key) (tgt := 59) dX3_insert_18 (by decide) (by omega) (by omega) (fun c_18 => ?_) (fun c_18 => ?_)
      · skip
        obtain rfl : z = bel (sz 0) (of K 0) key := by omega
        have hke := ShU_e (x := key) hk hz.2
        have hve := ShU_e (x := w) hv hz.2
        refine lv_aload_n S.1 S.2.1 dX3_insert_59 rfl (lv_at hl 0 rfl) ?_
        refine o_get S hG i_X3 (by decide) hM.1 rfl 1 (by decide) kf_7 rfl dX3_insert_60 ?_
        refine lv_iload_n S.1 S.2.1 dX3_insert_63 rfl (lv_at hl 3 rfl) ?_
        refine lv_iload_n S.1 S.2.1 dX3_insert_64 rfl (lv_at hl 1 rfl) ?_
        refine o_iast S hG (j := bel (sz 0) (of K 0) key) (by decide) hM.2.1 (by omega) dX3_insert_65 (kk := fun H locs hG => ?_)
        obtain ⟨f_2, ef_2, hG⟩ := ov_name hG
        have hM := hM.uK ef_2
        have hO := hO.up ef_2 (by decide)
        refine lv_aload_n S.1 S.2.1 dX3_insert_66 rfl (lv_at hl 0 rfl) ?_
        refine o_get S hG i_X3 (by decide) hM.1 rfl 2 (by decide) kf_13 rfl dX3_insert_67 ?_
        refine lv_iload_n S.1 S.2.1 dX3_insert_70 rfl (lv_at hl 3 rfl) ?_
        refine lv_iload_n S.1 S.2.1 dX3_insert_71 rfl (lv_at hl 2 rfl) ?_
        refine o_iast S hG (j := bel (sz 0) (of K 0) key) (by decide) hM.2.2.1 (by omega) dX3_insert_72 (kk := fun H locs hG => ?_)
        obtain ⟨f_3, ef_3, hG⟩ := ov_name hG
        have hM := hM.uV ef_3
        have hO := hO.up ef_3 (by decide)
        refine lv_aload_n S.1 S.2.1 dX3_insert_73 rfl (lv_at hl 0 rfl) ?_
        refine o_get S hG i_X3 (by decide) hM.1 rfl 3 (by decide) kf_16 rfl dX3_insert_74 ?_
        refine lv_iconst (v := (nI 0)) S.1 S.2.1 dX3_insert_77 (by decide) ?_
        refine lv_dup2_11 S.1 S.2.1 dX3_insert_78 rfl rfl ?_
        refine o_iald S hG (j := 0) (by decide) hM.2.2.2.1 (by omega) dX3_insert_79 (kk := ?_)
        refine lv_iconst (v := (nI 1)) S.1 S.2.1 dX3_insert_80 (by decide) ?_
        refine o_add S (a := sz 0) (b := 1) dX3_insert_81 ?_
        refine o_iast S hG (j := 0) (by decide) hM.2.2.2.1 (by omega) dX3_insert_82 (kk := fun H locs hG => ?_)
        obtain ⟨f_4, ef_4, hG⟩ := ov_name hG
        have hM := hM.uZ (j := 0) (n := (sz 0) + 1) ef_4
        have hO := hO.up ef_4 (by decide)
        exact ret _ _ _ _ _ _ _ hG ⟨hO, _, _, hM, fun i hi => ⟨hke.1 i hi, hve.1 i hi⟩, fun i hi => ⟨hke.2 i (by omega), hve.2 i (by omega)⟩⟩ (Nat.le_of_ble_eq_true rfl) (Nat.le_of_ble_eq_true rfl) dX3_insert_83
      · skip
        refine lv_aload_n S.1 S.2.1 dX3_insert_21 rfl (lv_at hl 0 rfl) ?_
        refine o_get S hG i_X3 (by decide) hM.1 rfl 1 (by decide) kf_7 rfl dX3_insert_22 ?_
        refine lv_iload S.1 S.2.1 dX3_insert_25 (lv_at hl 4 rfl) ?_
        refine lv_aload_n S.1 S.2.1 dX3_insert_27 rfl (lv_at hl 0 rfl) ?_
        refine o_get S hG i_X3 (by decide) hM.1 rfl 1 (by decide) kf_7 rfl dX3_insert_28 ?_
        refine lv_iload S.1 S.2.1 dX3_insert_31 (lv_at hl 4 rfl) ?_
        refine lv_iconst (v := (nI 1)) S.1 S.2.1 dX3_insert_33 (by decide) ?_
        refine o_sub S (a := z) (b := 1) dX3_insert_34 (by omega) ?_
        refine o_iald S hG (j := z - 1) (by decide) hM.2.1 (by omega) dX3_insert_35 (kk := ?_)
        refine o_iast S hG (j := z) (by decide) hM.2.1 (by omega) dX3_insert_36 (kk := fun H locs hG => ?_)
        obtain ⟨f_5, ef_5, hG⟩ := ov_name hG
        have hM := hM.uK ef_5
        have hO := hO.up ef_5 (by decide)
        refine lv_aload_n S.1 S.2.1 dX3_insert_37 rfl (lv_at hl 0 rfl) ?_
        refine o_get S hG i_X3 (by decide) hM.1 rfl 2 (by decide) kf_13 rfl dX3_insert_38 ?_
        refine lv_iload S.1 S.2.1 dX3_insert_41 (lv_at hl 4 rfl) ?_
        refine lv_aload_n S.1 S.2.1 dX3_insert_43 rfl (lv_at hl 0 rfl) ?_
        refine o_get S hG i_X3 (by decide) hM.1 rfl 2 (by decide) kf_13 rfl dX3_insert_44 ?_
        refine lv_iload S.1 S.2.1 dX3_insert_47 (lv_at hl 4 rfl) ?_
        refine lv_iconst (v := (nI 1)) S.1 S.2.1 dX3_insert_49 (by decide) ?_
        refine o_sub S (a := z) (b := 1) dX3_insert_50 (by omega) ?_
        refine o_iald S hG (j := z - 1) (by decide) hM.2.2.1 (by omega) dX3_insert_51 (kk := ?_)
        refine o_iast S hG (j := z) (by decide) hM.2.2.1 (by omega) dX3_insert_52 (kk := fun H locs hG => ?_)
        obtain ⟨f_6, ef_6, hG⟩ := ov_name hG
        have hM := hM.uV ef_6
        have hO := hO.up ef_6 (by decide)
        refine lv_iinc (v := (nI (z - 1))) (lv' := [(4, .int (nI (z - 1))), (0, .ref (ad 76)), (1, .int key), (2, .int w), (3, .int (nI (bel (sz 0) (of K 0) key)))]) S.1 S.2.1 dX3_insert_53 hl (k := 4) rfl (nI_dec (by omega)) (by decide) rfl (fun ls hl => ?_)
        refine lv_goto (tgt := 15) S.1 S.2.1 dX3_insert_56 (by decide) ?_
        exact ih_15 (z - 1) (upd kk z (kk (z - 1))) (upd vv z (vv (z - 1))) f_6 _ _ hM hO (by omega) (ShU_s hk (by omega) hz.2) (ShU_s hv (by omega) hz.2) (by omega) hG ls (lv_sub hl [1, 2, 3, 4, 0] rfl)
  exact L_15 _ (sz 0) K V f _ _ hM hO (by omega) ShU_0 ShU_0 (Nat.lt_succ_self _) hG ls (lv_sub hl [2, 3, 4, 1, 0] rfl)

theorem ShD_e {k kk : Nat → Int32} {a d z i : Nat} (h : ShD k kk a d z) (hi : i < z ∨ i < a) : kk i = delF k a d i := by
  simp only [delF]
  by_cases g : i < a
  · rw [if_pos g]; exact h.1 i g
  · rw [if_neg g]; exact h.2.1 i (by omega) (by omega)

set_option maxHeartbeats 4000000 in
set_option maxRecDepth 100000 in
theorem c_X3_takeOut (l : Launch) (G : Gx) (ad : Nat → Nat) (s0 : Nat) (f : Nat → va_E) (cd : Nat) (K V : Nat → Int32) (sz : Nat → Nat) (th : Nat → Bool) (pl : Nat → Int) (dn : Nat → Bool) (a d : Nat) (hM : MB G ad f cd K V sz th pl dn) (hn : sz 0 ≤ 600) (had : a + d ≤ sz 0) : mV l yX3_takeOut wsX3_takeOut 0 0 0 0 [.ref (ad 76), .int (nI a), .int (nI d)] G 84 ad s0 f (fun f' => OnM f f' ∧ ∃ K2 V2, MB G ad f' cd K2 V2 (va_up sz 0 (sz 0 - d)) th pl dn ∧ (∀ i, i < sz 0 - d → K2 i = delF K a d i ∧ V2 i = delF V a d i) ∧ ∀ i, 600 ≤ i → K2 i = K i ∧ V2 i = V i) := by
  refine ov_mV (cc := cX3_takeOut) (maxL := 4) (by decide) rfl (Nat.le_of_ble_eq_true rfl) ?_
  intro p e s m below meth c av Q S ret hG ls hl
  have S : CallFix p m c cX3_takeOut 4 s av wsX3_takeOut RX3 := S
  have hl : lv_has ls 4 [(0, .ref (ad 76)), (1, .int (nI a)), (2, .int (nI d))] := hl
  have i_X3 : ∀ w ∈ u_ws RX3 TX3 7, w ∈ wsX3_takeOut := by decide +kernel
  have kf_7 := S.2.2.2.2 (.fieldLink RX3 7 "OrderedVersionsModel" "keys" "[I") (by decide +kernel)
  have kf_13 := S.2.2.2.2 (.fieldLink RX3 13 "OrderedVersionsModel" "values" "[I") (by decide +kernel)
  have kf_16 := S.2.2.2.2 (.fieldLink RX3 16 "OrderedVersionsModel" "sizes" "[I") (by decide +kernel)
  have hO : OnM f f := OnM.rf
  refine lv_iload_n S.1 S.2.1 dX3_takeOut_0 rfl (lv_at hl 1 rfl) ?_
  refine lv_istore_n (lv' := [(3, .int (nI a)), (0, .ref (ad 76)), (1, .int (nI a)), (2, .int (nI d))]) S.1 S.2.1 dX3_takeOut_1 rfl hl (by decide) rfl (fun ls hl => ?_)
  have L_2 : ∀ (d9 : Nat) (z : Nat) (kk : Nat → Int32) (vv : Nat → Int32) (f2 : Nat → va_E) (H : Heap) (locs : List Loc), (MB G ad f2 cd kk vv sz th pl dn) → (OnM f f2) → (a ≤ z ∧ z + d ≤ sz 0) → (ShD K kk a d z) → (ShD V vv a d z) → (sz 0 - z) < d9 → ov_dy G 84 ad s0 s f2 H locs → ∀ ls : Array Slot, lv_has ls 4 [(0, .ref (ad 76)), (1, .int (nI a)), (2, .int (nI d)), (3, .int (nI z))] → W p l e (ov_rm 0 0 0 0) s m av below meth c H locs 0 0 Q (F0 m 2 ls []) := by
    intro d9
    induction d9 with
    | zero => intro z kk vv f2 H locs hM hO hz hk hv h9; exact absurd h9 (Nat.not_lt_zero _)
    | succ d9 ih_2 =>
      intro z kk vv f2 H locs hM hO hz hk hv h9 hG ls hl
      refine lv_iload_n S.1 S.2.1 dX3_takeOut_2 rfl (lv_at hl 3 rfl) ?_
      refine lv_iload_n S.1 S.2.1 dX3_takeOut_3 rfl (lv_at hl 2 rfl) ?_
      refine o_add S (a := z) (b := d) dX3_takeOut_4 ?_
      refine lv_aload_n S.1 S.2.1 dX3_takeOut_5 rfl (lv_at hl 0 rfl) ?_
      refine o_get S hG i_X3 (by decide) hM.1 rfl 3 (by decide) kf_16 rfl dX3_takeOut_6 ?_
      refine lv_iconst (v := (nI 0)) S.1 S.2.1 dX3_takeOut_9 (by decide) ?_
      refine o_iald S hG (j := 0) (by decide) hM.2.2.2.1 (by omega) dX3_takeOut_10 (kk := ?_)
      refine n_ge S (a := z + d) (b := sz 0) (tgt := 48) dX3_takeOut_11 (by decide) (by omega) (by omega) (fun c_11 => ?_) (fun c_11 => ?_)
      · skip
        refine lv_aload_n S.1 S.2.1 dX3_takeOut_48 rfl (lv_at hl 0 rfl) ?_
        refine o_get S hG i_X3 (by decide) hM.1 rfl 3 (by decide) kf_16 rfl dX3_takeOut_49 ?_
        refine lv_iconst (v := (nI 0)) S.1 S.2.1 dX3_takeOut_52 (by decide) ?_
        refine lv_dup2_11 S.1 S.2.1 dX3_takeOut_53 rfl rfl ?_
        refine o_iald S hG (j := 0) (by decide) hM.2.2.2.1 (by omega) dX3_takeOut_54 (kk := ?_)
        refine lv_iload_n S.1 S.2.1 dX3_takeOut_55 rfl (lv_at hl 2 rfl) ?_
        refine o_sub S (a := sz 0) (b := d) dX3_takeOut_56 (by omega) ?_
        refine o_iast S hG (j := 0) (by decide) hM.2.2.2.1 (by omega) dX3_takeOut_57 (kk := fun H locs hG => ?_)
        obtain ⟨f_1, ef_1, hG⟩ := ov_name hG
        have hM := hM.uZ (j := 0) (n := (sz 0) - d) ef_1
        have hO := hO.up ef_1 (by decide)
        exact ret _ _ _ _ _ _ _ hG ⟨hO, _, _, hM, fun i hi => ⟨ShD_e hk (by omega), ShD_e hv (by omega)⟩, fun i hi => ⟨hk.2.2 i (by omega), hv.2.2 i (by omega)⟩⟩ (Nat.le_of_ble_eq_true rfl) (Nat.le_of_ble_eq_true rfl) dX3_takeOut_58
      · skip
        refine lv_aload_n S.1 S.2.1 dX3_takeOut_14 rfl (lv_at hl 0 rfl) ?_
        refine o_get S hG i_X3 (by decide) hM.1 rfl 1 (by decide) kf_7 rfl dX3_takeOut_15 ?_
        refine lv_iload_n S.1 S.2.1 dX3_takeOut_18 rfl (lv_at hl 3 rfl) ?_
        refine lv_aload_n S.1 S.2.1 dX3_takeOut_19 rfl (lv_at hl 0 rfl) ?_
        refine o_get S hG i_X3 (by decide) hM.1 rfl 1 (by decide) kf_7 rfl dX3_takeOut_20 ?_
        refine lv_iload_n S.1 S.2.1 dX3_takeOut_23 rfl (lv_at hl 3 rfl) ?_
        refine lv_iload_n S.1 S.2.1 dX3_takeOut_24 rfl (lv_at hl 2 rfl) ?_
        refine o_add S (a := z) (b := d) dX3_takeOut_25 ?_
        refine o_iald S hG (j := z + d) (by decide) hM.2.1 (by omega) dX3_takeOut_26 (kk := ?_)
        refine o_iast S hG (j := z) (by decide) hM.2.1 (by omega) dX3_takeOut_27 (kk := fun H locs hG => ?_)
        obtain ⟨f_2, ef_2, hG⟩ := ov_name hG
        have hM := hM.uK ef_2
        have hO := hO.up ef_2 (by decide)
        refine lv_aload_n S.1 S.2.1 dX3_takeOut_28 rfl (lv_at hl 0 rfl) ?_
        refine o_get S hG i_X3 (by decide) hM.1 rfl 2 (by decide) kf_13 rfl dX3_takeOut_29 ?_
        refine lv_iload_n S.1 S.2.1 dX3_takeOut_32 rfl (lv_at hl 3 rfl) ?_
        refine lv_aload_n S.1 S.2.1 dX3_takeOut_33 rfl (lv_at hl 0 rfl) ?_
        refine o_get S hG i_X3 (by decide) hM.1 rfl 2 (by decide) kf_13 rfl dX3_takeOut_34 ?_
        refine lv_iload_n S.1 S.2.1 dX3_takeOut_37 rfl (lv_at hl 3 rfl) ?_
        refine lv_iload_n S.1 S.2.1 dX3_takeOut_38 rfl (lv_at hl 2 rfl) ?_
        refine o_add S (a := z) (b := d) dX3_takeOut_39 ?_
        refine o_iald S hG (j := z + d) (by decide) hM.2.2.1 (by omega) dX3_takeOut_40 (kk := ?_)
        refine o_iast S hG (j := z) (by decide) hM.2.2.1 (by omega) dX3_takeOut_41 (kk := fun H locs hG => ?_)
        obtain ⟨f_3, ef_3, hG⟩ := ov_name hG
        have hM := hM.uV ef_3
        have hO := hO.up ef_3 (by decide)
        refine lv_iinc (v := (nI (z + 1))) (lv' := [(3, .int (nI (z + 1))), (0, .ref (ad 76)), (1, .int (nI a)), (2, .int (nI d))]) S.1 S.2.1 dX3_takeOut_42 hl (k := 3) rfl (nI_add z 1) (by decide) rfl (fun ls hl => ?_)
        refine lv_goto (tgt := 2) S.1 S.2.1 dX3_takeOut_45 (by decide) ?_
        exact ih_2 (z + 1) (upd kk z (kk (z + d))) (upd vv z (vv (z + d))) f_3 _ _ hM hO (by omega) (ShD_s hk hz.1) (ShD_s hv hz.1) (by omega) hG ls (lv_sub hl [1, 2, 3, 0] rfl)
  exact L_2 _ a K V f _ _ hM hO (by omega) ShD_0 ShD_0 (Nat.lt_succ_self _) hG ls (lv_sub hl [1, 2, 3, 0] rfl)

set_option maxHeartbeats 4000000 in
set_option maxRecDepth 100000 in
theorem c_X3_copy (l : Launch) (G : Gx) (ad : Nat → Nat) (s0 : Nat) (f : Nat → va_E) (cd : Nat) (K V : Nat → Int32) (sz : Nat → Nat) (th : Nat → Bool) (pl : Nat → Int) (dn : Nat → Bool) (j d : Nat) (hM : MB G ad f cd K V sz th pl dn) (hj : j < 21) (hd : d < 21) (hjd : j ≠ d) (hn : sz j ≤ 600) : mV l yX3_copy wsX3_copy 0 0 0 0 [.ref (ad 76), .int (nI j), .int (nI d)] G 84 ad s0 f (fun f' => OnM f f' ∧ ∃ K2 V2, MB G ad f' cd K2 V2 (va_up sz d (sz j)) th pl dn ∧ (∀ i, i < sz j → K2 (600 * d + i) = K (600 * j + i) ∧ V2 (600 * d + i) = V (600 * j + i)) ∧ ∀ x, x < 600 * d ∨ 600 * d + 600 ≤ x → K2 x = K x ∧ V2 x = V x) := by
  refine ov_mV (cc := cX3_copy) (maxL := 4) (by decide) rfl (Nat.le_of_ble_eq_true rfl) ?_
  intro p e s m below meth c av Q S ret hG ls hl
  have S : CallFix p m c cX3_copy 4 s av wsX3_copy RX3 := S
  have hl : lv_has ls 4 [(0, .ref (ad 76)), (1, .int (nI j)), (2, .int (nI d))] := hl
  have i_X3 : ∀ w ∈ u_ws RX3 TX3 7, w ∈ wsX3_copy := by decide +kernel
  have kf_7 := S.2.2.2.2 (.fieldLink RX3 7 "OrderedVersionsModel" "keys" "[I") (by decide +kernel)
  have kf_13 := S.2.2.2.2 (.fieldLink RX3 13 "OrderedVersionsModel" "values" "[I") (by decide +kernel)
  have kf_16 := S.2.2.2.2 (.fieldLink RX3 16 "OrderedVersionsModel" "sizes" "[I") (by decide +kernel)
  have hO : OnM f f := OnM.rf
  refine lv_aload_n S.1 S.2.1 dX3_copy_0 rfl (lv_at hl 0 rfl) ?_
  refine o_get S hG i_X3 (by decide) hM.1 rfl 3 (by decide) kf_16 rfl dX3_copy_1 ?_
  refine lv_iload_n S.1 S.2.1 dX3_copy_4 rfl (lv_at hl 2 rfl) ?_
  refine lv_aload_n S.1 S.2.1 dX3_copy_5 rfl (lv_at hl 0 rfl) ?_
  refine o_get S hG i_X3 (by decide) hM.1 rfl 3 (by decide) kf_16 rfl dX3_copy_6 ?_
  refine lv_iload_n S.1 S.2.1 dX3_copy_9 rfl (lv_at hl 1 rfl) ?_
  refine o_iald S hG (j := j) (by decide) hM.2.2.2.1 (by omega) dX3_copy_10 (kk := ?_)
  refine o_iast S hG (j := d) (by decide) hM.2.2.2.1 (by omega) dX3_copy_11 (kk := fun H locs hG => ?_)
  obtain ⟨f_1, ef_1, hG⟩ := ov_name hG
  have hM := hM.uZ (j := d) (n := sz j) ef_1
  have hO := hO.up ef_1 (by decide)
  refine lv_iconst (v := (nI 0)) S.1 S.2.1 dX3_copy_12 (by decide) ?_
  refine lv_istore_n (lv' := [(3, .int (nI 0)), (0, .ref (ad 76)), (1, .int (nI j)), (2, .int (nI d))]) S.1 S.2.1 dX3_copy_13 rfl hl (by decide) rfl (fun ls hl => ?_)
  have L_14 : ∀ (d9 : Nat) (z : Nat) (kk : Nat → Int32) (vv : Nat → Int32) (f2 : Nat → va_E) (H : Heap) (locs : List Loc), (MB G ad f2 cd kk vv (va_up sz d (sz j)) th pl dn) → (OnM f f2) → (z ≤ sz j) → (CpU K kk j d z) → (CpU V vv j d z) → (sz j - z) < d9 → ov_dy G 84 ad s0 s f2 H locs → ∀ ls : Array Slot, lv_has ls 4 [(0, .ref (ad 76)), (1, .int (nI j)), (2, .int (nI d)), (3, .int (nI z))] → W p l e (ov_rm 0 0 0 0) s m av below meth c H locs 0 0 Q (F0 m 14 ls []) := by
    intro d9
    induction d9 with
    | zero => intro z kk vv f2 H locs hM hO hz hk hv h9; exact absurd h9 (Nat.not_lt_zero _)
    | succ d9 ih_14 =>
      intro z kk vv f2 H locs hM hO hz hk hv h9 hG ls hl
      refine lv_iload_n S.1 S.2.1 dX3_copy_14 rfl (lv_at hl 3 rfl) ?_
      refine lv_aload_n S.1 S.2.1 dX3_copy_15 rfl (lv_at hl 0 rfl) ?_
      refine o_get S hG i_X3 (by decide) hM.1 rfl 3 (by decide) kf_16 rfl dX3_copy_16 ?_
      refine lv_iload_n S.1 S.2.1 dX3_copy_19 rfl (lv_at hl 1 rfl) ?_
      refine o_iald S hG (j := j) (by decide) hM.2.2.2.1 (by omega) dX3_copy_20 (kk := ?_)
      refine o_top (congrArg nI (va_up_ne sz _ hjd)) ?_
      refine n_ge S (a := z) (b := sz j) (tgt := 78) dX3_copy_21 (by decide) (by omega) (by omega) (fun c_21 => ?_) (fun c_21 => ?_)
      · skip
        exact ret _ _ _ _ _ _ _ hG ⟨hO, _, _, hM, fun i hi => ⟨hk.1 i (by omega), hv.1 i (by omega)⟩, fun x hx => ⟨hk.2 x (by omega), hv.2 x (by omega)⟩⟩ (Nat.le_of_ble_eq_true rfl) (Nat.le_of_ble_eq_true rfl) dX3_copy_78
      · skip
        refine lv_aload_n S.1 S.2.1 dX3_copy_24 rfl (lv_at hl 0 rfl) ?_
        refine o_get S hG i_X3 (by decide) hM.1 rfl 1 (by decide) kf_7 rfl dX3_copy_25 ?_
        refine lv_sipush (v := (nI 600)) S.1 S.2.1 dX3_copy_28 (by decide) ?_
        refine lv_iload_n S.1 S.2.1 dX3_copy_31 rfl (lv_at hl 2 rfl) ?_
        refine o_mul S (a := 600) (b := d) dX3_copy_32 ?_
        refine lv_iload_n S.1 S.2.1 dX3_copy_33 rfl (lv_at hl 3 rfl) ?_
        refine o_add S (a := 600 * d) (b := z) dX3_copy_34 ?_
        refine lv_aload_n S.1 S.2.1 dX3_copy_35 rfl (lv_at hl 0 rfl) ?_
        refine o_get S hG i_X3 (by decide) hM.1 rfl 1 (by decide) kf_7 rfl dX3_copy_36 ?_
        refine lv_sipush (v := (nI 600)) S.1 S.2.1 dX3_copy_39 (by decide) ?_
        refine lv_iload_n S.1 S.2.1 dX3_copy_42 rfl (lv_at hl 1 rfl) ?_
        refine o_mul S (a := 600) (b := j) dX3_copy_43 ?_
        refine lv_iload_n S.1 S.2.1 dX3_copy_44 rfl (lv_at hl 3 rfl) ?_
        refine o_add S (a := 600 * j) (b := z) dX3_copy_45 ?_
        refine o_iald S hG (j := (600 * j) + z) (by decide) hM.2.1 (by omega) dX3_copy_46 (kk := ?_)
        refine o_iast S hG (j := (600 * d) + z) (by decide) hM.2.1 (by omega) dX3_copy_47 (kk := fun H locs hG => ?_)
        obtain ⟨f_2, ef_2, hG⟩ := ov_name hG
        have hM := hM.uK ef_2
        have hO := hO.up ef_2 (by decide)
        refine lv_aload_n S.1 S.2.1 dX3_copy_48 rfl (lv_at hl 0 rfl) ?_
        refine o_get S hG i_X3 (by decide) hM.1 rfl 2 (by decide) kf_13 rfl dX3_copy_49 ?_
        refine lv_sipush (v := (nI 600)) S.1 S.2.1 dX3_copy_52 (by decide) ?_
        refine lv_iload_n S.1 S.2.1 dX3_copy_55 rfl (lv_at hl 2 rfl) ?_
        refine o_mul S (a := 600) (b := d) dX3_copy_56 ?_
        refine lv_iload_n S.1 S.2.1 dX3_copy_57 rfl (lv_at hl 3 rfl) ?_
        refine o_add S (a := 600 * d) (b := z) dX3_copy_58 ?_
        refine lv_aload_n S.1 S.2.1 dX3_copy_59 rfl (lv_at hl 0 rfl) ?_
        refine o_get S hG i_X3 (by decide) hM.1 rfl 2 (by decide) kf_13 rfl dX3_copy_60 ?_
        refine lv_sipush (v := (nI 600)) S.1 S.2.1 dX3_copy_63 (by decide) ?_
        refine lv_iload_n S.1 S.2.1 dX3_copy_66 rfl (lv_at hl 1 rfl) ?_
        refine o_mul S (a := 600) (b := j) dX3_copy_67 ?_
        refine lv_iload_n S.1 S.2.1 dX3_copy_68 rfl (lv_at hl 3 rfl) ?_
        refine o_add S (a := 600 * j) (b := z) dX3_copy_69 ?_
        refine o_iald S hG (j := (600 * j) + z) (by decide) hM.2.2.1 (by omega) dX3_copy_70 (kk := ?_)
        refine o_iast S hG (j := (600 * d) + z) (by decide) hM.2.2.1 (by omega) dX3_copy_71 (kk := fun H locs hG => ?_)
        obtain ⟨f_3, ef_3, hG⟩ := ov_name hG
        have hM := hM.uV ef_3
        have hO := hO.up ef_3 (by decide)
        refine lv_iinc (v := (nI (z + 1))) (lv' := [(3, .int (nI (z + 1))), (0, .ref (ad 76)), (1, .int (nI j)), (2, .int (nI d))]) S.1 S.2.1 dX3_copy_72 hl (k := 3) rfl (nI_add z 1) (by decide) rfl (fun ls hl => ?_)
        refine lv_goto (tgt := 14) S.1 S.2.1 dX3_copy_75 (by decide) ?_
        exact ih_14 (z + 1) (upd kk ((600 * d) + z) (kk ((600 * j) + z))) (upd vv ((600 * d) + z) (vv ((600 * j) + z))) f_3 _ _ hM hO (by omega) (CpU_s hk (by omega) hjd) (CpU_s hv (by omega) hjd) (by omega) hG ls (lv_sub hl [1, 2, 3, 0] rfl)
  exact L_14 _ 0 K V f_1 _ _ hM hO (Nat.zero_le _) CpU_0 CpU_0 (Nat.lt_succ_self _) hG ls (lv_sub hl [1, 2, 3, 0] rfl)

set_option maxHeartbeats 4000000 in
set_option maxRecDepth 100000 in
theorem c_X3_isVersion (l : Launch) (G : Gx) (ad : Nat → Nat) (s0 : Nat) (f : Nat → va_E) (cd : Nat) (K V : Nat → Int32) (sz : Nat → Nat) (th : Nat → Bool) (pl : Nat → Int) (dn : Nat → Bool) (v : Int32) (hM : MB G ad f cd K V sz th pl dn)  : mI l yX3_isVersion wsX3_isVersion 0 0 0 0 [.ref (ad 76), .int v] G 84 ad s0 f (fun r f' => f = f' ∧ r = bI (isv th v)) := by
  refine ov_mI (cc := cX3_isVersion) (maxL := 2) (ty := .boolean) (by decide) rfl (Nat.le_of_ble_eq_true rfl) ?_
  intro p e s m below meth c av Q S ret hG ls hl
  have S : CallFix p m c cX3_isVersion 2 s av wsX3_isVersion RX3 := S
  have hl : lv_has ls 2 [(0, .ref (ad 76)), (1, .int v)] := hl
  have i_X3 : ∀ w ∈ u_ws RX3 TX3 7, w ∈ wsX3_isVersion := by decide +kernel
  have kf_19 := S.2.2.2.2 (.fieldLink RX3 19 "OrderedVersionsModel" "there" "[Z") (by decide +kernel)
  refine lv_iload_n S.1 S.2.1 dX3_isVersion_0 rfl (lv_at hl 1 rfl) ?_
  refine lv_if_lt (tgt := 23) S.1 S.2.1 dX3_isVersion_1 (by decide) (fun c_1 => ?_) (fun c_1 => ?_)
  · skip
    refine lv_iconst (v := (nI 0)) S.1 S.2.1 dX3_isVersion_23 (by decide) ?_
    exact ret _ _ _ _ _ _ _ _ hG ⟨rfl, bI_f (isv_f1 c_1)⟩ rfl (Nat.le_of_ble_eq_true rfl) (Nat.le_of_ble_eq_true rfl) dX3_isVersion_24
  · skip
    refine lv_iload_n S.1 S.2.1 dX3_isVersion_4 rfl (lv_at hl 1 rfl) ?_
    refine lv_bipush (v := (nI 12)) S.1 S.2.1 dX3_isVersion_5 (by decide) ?_
    refine lv_icmp_gt (tgt := 23) S.1 S.2.1 dX3_isVersion_7 (by decide) (fun c_7 => ?_) (fun c_7 => ?_)
    · skip
      refine lv_iconst (v := (nI 0)) S.1 S.2.1 dX3_isVersion_23 (by decide) ?_
      exact ret _ _ _ _ _ _ _ _ hG ⟨rfl, bI_f (isv_f2 c_7)⟩ rfl (Nat.le_of_ble_eq_true rfl) (Nat.le_of_ble_eq_true rfl) dX3_isVersion_24
    · skip
      obtain ⟨j, hj, rfl⟩ := v_ex (by decide) c_1 c_7
      refine lv_aload_n S.1 S.2.1 dX3_isVersion_10 rfl (lv_at hl 0 rfl) ?_
      refine o_get S hG i_X3 (by decide) hM.1 rfl 4 (by decide) kf_19 rfl dX3_isVersion_11 ?_
      refine lv_iload_n S.1 S.2.1 dX3_isVersion_14 rfl (lv_at hl 1 rfl) ?_
      refine o_zald S hG (j := j) (by decide) hM.2.2.2.2.1 (by omega) dX3_isVersion_15 (kk := ?_)
      refine b_if_eq S (b := th j) (tgt := 23) dX3_isVersion_16 (by decide) (fun c_16 => ?_) (fun c_16 => ?_)
      · skip
        refine lv_iconst (v := (nI 0)) S.1 S.2.1 dX3_isVersion_23 (by decide) ?_
        exact ret _ _ _ _ _ _ _ _ hG ⟨rfl, bI_f (by rw [isv_nI hj]; exact c_16)⟩ rfl (Nat.le_of_ble_eq_true rfl) (Nat.le_of_ble_eq_true rfl) dX3_isVersion_24
      · skip
        refine lv_iconst (v := (nI 1)) S.1 S.2.1 dX3_isVersion_19 (by decide) ?_
        refine lv_goto (tgt := 24) S.1 S.2.1 dX3_isVersion_20 (by decide) ?_
        exact ret _ _ _ _ _ _ _ _ hG ⟨rfl, bI_t (by rw [isv_nI hj]; exact c_16)⟩ rfl (Nat.le_of_ble_eq_true rfl) (Nat.le_of_ble_eq_true rfl) dX3_isVersion_24

set_option maxHeartbeats 4000000 in
set_option maxRecDepth 100000 in
theorem c_X3_isSnapshot (l : Launch) (G : Gx) (ad : Nat → Nat) (s0 : Nat) (f : Nat → va_E) (cd : Nat) (K V : Nat → Int32) (sz : Nat → Nat) (th : Nat → Bool) (pl : Nat → Int) (dn : Nat → Bool) (v : Int32) (hM : MB G ad f cd K V sz th pl dn)  : mI l yX3_isSnapshot wsX3_isSnapshot 1 21 0 0 [.ref (ad 76), .int v] G 84 ad s0 f (fun r f' => f = f' ∧ r = bI (iss th v)) := by
  refine ov_mI (cc := cX3_isSnapshot) (maxL := 2) (ty := .boolean) (by decide) rfl (Nat.le_of_ble_eq_true rfl) ?_
  intro p e s m below meth c av Q S ret hG ls hl
  have S : CallFix p m c cX3_isSnapshot 2 s av wsX3_isSnapshot RX3 := S
  have hl : lv_has ls 2 [(0, .ref (ad 76)), (1, .int v)] := hl
  refine lv_iload_n S.1 S.2.1 dX3_isSnapshot_0 rfl (lv_at hl 1 rfl) ?_
  refine lv_if_le (tgt := 16) S.1 S.2.1 dX3_isSnapshot_1 (by decide) (fun c_1 => ?_) (fun c_1 => ?_)
  · skip
    refine lv_iconst (v := (nI 0)) S.1 S.2.1 dX3_isSnapshot_16 (by decide) ?_
    exact ret _ _ _ _ _ _ _ _ hG ⟨rfl, bI_f (iss_f1 c_1)⟩ rfl (Nat.le_of_ble_eq_true rfl) (Nat.le_of_ble_eq_true rfl) dX3_isSnapshot_17
  · skip
    refine lv_aload_n S.1 S.2.1 dX3_isSnapshot_4 rfl (lv_at hl 0 rfl) ?_
    refine lv_iload_n S.1 S.2.1 dX3_isSnapshot_5 rfl (lv_at hl 1 rfl) ?_
    refine o_cVi S (rest := []) (c_X3_isVersion l G ad s0 f cd K V sz th pl dn v hM ) (cwV 1 S.2.2.2.2 gX3_isSnapshot_X3_isVersion rfl rfl rfl (by decide +kernel) ⟨(Nat.le_of_ble_eq_true rfl), (Nat.le_of_ble_eq_true rfl)⟩) hG (by decide) hM.1 rfl rfl hl.1 rfl (Nat.le_of_ble_eq_true rfl) dX3_isSnapshot_6 ⟨(Nat.le_of_ble_eq_true rfl), (Nat.le_of_ble_eq_true rfl)⟩ (fun r9 f9 H locs hp hG => ?_)
    obtain ⟨rfl, rfl⟩ := hp
    refine b_if_eq S (b := (isv th v)) (tgt := 16) dX3_isSnapshot_9 (by decide) (fun c_9 => ?_) (fun c_9 => ?_)
    · skip
      refine lv_iconst (v := (nI 0)) S.1 S.2.1 dX3_isSnapshot_16 (by decide) ?_
      exact ret _ _ _ _ _ _ _ _ hG ⟨rfl, bI_f (by rw [iss_isv c_1]; exact c_9)⟩ rfl (Nat.le_of_ble_eq_true rfl) (Nat.le_of_ble_eq_true rfl) dX3_isSnapshot_17
    · skip
      refine lv_iconst (v := (nI 1)) S.1 S.2.1 dX3_isSnapshot_12 (by decide) ?_
      refine lv_goto (tgt := 17) S.1 S.2.1 dX3_isSnapshot_13 (by decide) ?_
      exact ret _ _ _ _ _ _ _ _ hG ⟨rfl, bI_t (by rw [iss_isv c_1]; exact c_9)⟩ rfl (Nat.le_of_ble_eq_true rfl) (Nat.le_of_ble_eq_true rfl) dX3_isSnapshot_17

set_option maxHeartbeats 4000000 in
set_option maxRecDepth 100000 in
theorem c_X3_isCursor (l : Launch) (G : Gx) (ad : Nat → Nat) (s0 : Nat) (f : Nat → va_E) (cd : Nat) (K V : Nat → Int32) (sz : Nat → Nat) (th : Nat → Bool) (pl : Nat → Int) (dn : Nat → Bool) (v : Int32) (hM : MB G ad f cd K V sz th pl dn)  : mI l yX3_isCursor wsX3_isCursor 0 0 0 0 [.ref (ad 76), .int v] G 84 ad s0 f (fun r f' => f = f' ∧ r = bI (isc th v)) := by
  refine ov_mI (cc := cX3_isCursor) (maxL := 2) (ty := .boolean) (by decide) rfl (Nat.le_of_ble_eq_true rfl) ?_
  intro p e s m below meth c av Q S ret hG ls hl
  have S : CallFix p m c cX3_isCursor 2 s av wsX3_isCursor RX3 := S
  have hl : lv_has ls 2 [(0, .ref (ad 76)), (1, .int v)] := hl
  have i_X3 : ∀ w ∈ u_ws RX3 TX3 7, w ∈ wsX3_isCursor := by decide +kernel
  have kf_19 := S.2.2.2.2 (.fieldLink RX3 19 "OrderedVersionsModel" "there" "[Z") (by decide +kernel)
  refine lv_iload_n S.1 S.2.1 dX3_isCursor_0 rfl (lv_at hl 1 rfl) ?_
  refine lv_if_lt (tgt := 26) S.1 S.2.1 dX3_isCursor_1 (by decide) (fun c_1 => ?_) (fun c_1 => ?_)
  · skip
    refine lv_iconst (v := (nI 0)) S.1 S.2.1 dX3_isCursor_26 (by decide) ?_
    exact ret _ _ _ _ _ _ _ _ hG ⟨rfl, bI_f (isc_f1 c_1)⟩ rfl (Nat.le_of_ble_eq_true rfl) (Nat.le_of_ble_eq_true rfl) dX3_isCursor_27
  · skip
    refine lv_iload_n S.1 S.2.1 dX3_isCursor_4 rfl (lv_at hl 1 rfl) ?_
    refine lv_bipush (v := (nI 8)) S.1 S.2.1 dX3_isCursor_5 (by decide) ?_
    refine lv_icmp_ge (tgt := 26) S.1 S.2.1 dX3_isCursor_7 (by decide) (fun c_7 => ?_) (fun c_7 => ?_)
    · skip
      refine lv_iconst (v := (nI 0)) S.1 S.2.1 dX3_isCursor_26 (by decide) ?_
      exact ret _ _ _ _ _ _ _ _ hG ⟨rfl, bI_f (isc_f2 c_7)⟩ rfl (Nat.le_of_ble_eq_true rfl) (Nat.le_of_ble_eq_true rfl) dX3_isCursor_27
    · skip
      obtain ⟨j, hj, rfl⟩ := v_ex2 (by decide) c_1 c_7
      refine lv_aload_n S.1 S.2.1 dX3_isCursor_10 rfl (lv_at hl 0 rfl) ?_
      refine o_get S hG i_X3 (by decide) hM.1 rfl 4 (by decide) kf_19 rfl dX3_isCursor_11 ?_
      refine lv_bipush (v := (nI 13)) S.1 S.2.1 dX3_isCursor_14 (by decide) ?_
      refine lv_iload_n S.1 S.2.1 dX3_isCursor_16 rfl (lv_at hl 1 rfl) ?_
      refine o_add S (a := 13) (b := j) dX3_isCursor_17 ?_
      refine o_zald S hG (j := 13 + j) (by decide) hM.2.2.2.2.1 (by omega) dX3_isCursor_18 (kk := ?_)
      refine b_if_eq S (b := th (13 + j)) (tgt := 26) dX3_isCursor_19 (by decide) (fun c_19 => ?_) (fun c_19 => ?_)
      · skip
        refine lv_iconst (v := (nI 0)) S.1 S.2.1 dX3_isCursor_26 (by decide) ?_
        exact ret _ _ _ _ _ _ _ _ hG ⟨rfl, bI_f (by rw [isc_nI hj]; exact c_19)⟩ rfl (Nat.le_of_ble_eq_true rfl) (Nat.le_of_ble_eq_true rfl) dX3_isCursor_27
      · skip
        refine lv_iconst (v := (nI 1)) S.1 S.2.1 dX3_isCursor_22 (by decide) ?_
        refine lv_goto (tgt := 27) S.1 S.2.1 dX3_isCursor_23 (by decide) ?_
        exact ret _ _ _ _ _ _ _ _ hG ⟨rfl, bI_t (by rw [isc_nI hj]; exact c_19)⟩ rfl (Nat.le_of_ble_eq_true rfl) (Nat.le_of_ble_eq_true rfl) dX3_isCursor_27

set_option maxHeartbeats 4000000 in
set_option maxRecDepth 100000 in
theorem c_X3_thrown (l : Launch) (G : Gx) (ad : Nat → Nat) (s0 : Nat) (f : Nat → va_E) (cd : Nat) (K V : Nat → Int32) (sz : Nat → Nat) (th : Nat → Bool) (pl : Nat → Int) (dn : Nat → Bool)  (hM : MB G ad f cd K V sz th pl dn)  : mI l yX3_thrown wsX3_thrown 0 0 0 0 [.ref (ad 76)] G 84 ad s0 f (fun r f' => f = f' ∧ r = nI cd) := by
  refine ov_mI (cc := cX3_thrown) (maxL := 1) (ty := .int) (by decide) rfl (Nat.le_of_ble_eq_true rfl) ?_
  intro p e s m below meth c av Q S ret hG ls hl
  have S : CallFix p m c cX3_thrown 1 s av wsX3_thrown RX3 := S
  have hl : lv_has ls 1 [(0, .ref (ad 76))] := hl
  have i_X3 : ∀ w ∈ u_ws RX3 TX3 7, w ∈ wsX3_thrown := by decide +kernel
  have kf_29 := S.2.2.2.2 (.fieldLink RX3 29 "OrderedVersionsModel" "code" "I") (by decide +kernel)
  refine lv_aload_n S.1 S.2.1 dX3_thrown_0 rfl (lv_at hl 0 rfl) ?_
  refine o_get S hG i_X3 (by decide) hM.1 rfl 0 (by decide) kf_29 rfl dX3_thrown_1 ?_
  exact ret _ _ _ _ _ _ _ _ hG ⟨rfl, rfl⟩ rfl (Nat.le_of_ble_eq_true rfl) (Nat.le_of_ble_eq_true rfl) dX3_thrown_4

/-- how many keys a range has -/
def man (n : Nat) (k : Nat → Int32) (lo hi : Int32) : Nat := if hi < lo then 0 else upt n k hi - bel n k lo
theorem bel_mono {n : Nat} {k : Nat → Int32} {a b : Int32} (h : a ≤ b) : bel n k a ≤ bel n k b := by
  obtain ⟨a1, a2, a3⟩ := bel_ok n k a
  obtain ⟨b1, b2, b3⟩ := bel_ok n k b
  refine Nat.le_of_not_lt fun g => ?_
  exact b3 (by omega) (i32_lt_le (a2 _ g) h)
theorem upt_ge {n : Nat} {k : Nat → Int32} {a : Int32} : bel n k a ≤ upt n k a := by
  unfold upt; split <;> omega
theorem man_le {n : Nat} {k : Nat → Int32} {lo hi : Int32} (hn : n ≤ 600) (h : lo ≤ hi) : bel n k lo ≤ upt n k hi := Nat.le_trans (bel_mono h) upt_ge

set_option maxHeartbeats 4000000 in
set_option maxRecDepth 100000 in
theorem c_X3_many (l : Launch) (G : Gx) (ad : Nat → Nat) (s0 : Nat) (f : Nat → va_E) (cd : Nat) (K V : Nat → Int32) (sz : Nat → Nat) (th : Nat → Bool) (pl : Nat → Int) (dn : Nat → Bool) (j : Nat) (lo hi : Int32) (hM : MB G ad f cd K V sz th pl dn) (hj : j < 21) (hn : sz j ≤ 600) : mI l yX3_many wsX3_many 3 68 0 0 [.ref (ad 76), .int (nI j), .int lo, .int hi] G 84 ad s0 f (fun r f' => f = f' ∧ r = nI (man (sz j) (of K j) lo hi)) := by
  refine ov_mI (cc := cX3_many) (maxL := 4) (ty := .int) (by decide) rfl (Nat.le_of_ble_eq_true rfl) ?_
  intro p e s m below meth c av Q S ret hG ls hl
  have S : CallFix p m c cX3_many 4 s av wsX3_many RX3 := S
  have hl : lv_has ls 4 [(0, .ref (ad 76)), (1, .int (nI j)), (2, .int lo), (3, .int hi)] := hl
  refine lv_iload_n S.1 S.2.1 dX3_many_0 rfl (lv_at hl 2 rfl) ?_
  refine lv_iload_n S.1 S.2.1 dX3_many_1 rfl (lv_at hl 3 rfl) ?_
  refine lv_icmp_le (tgt := 9) S.1 S.2.1 dX3_many_2 (by decide) (fun c_2 => ?_) (fun c_2 => ?_)
  · skip
    refine lv_aload_n S.1 S.2.1 dX3_many_9 rfl (lv_at hl 0 rfl) ?_
    refine lv_iload_n S.1 S.2.1 dX3_many_10 rfl (lv_at hl 1 rfl) ?_
    refine lv_iload_n S.1 S.2.1 dX3_many_11 rfl (lv_at hl 3 rfl) ?_
    refine o_cVi S (rest := []) (c_X3_upTo l G ad s0 f cd K V sz th pl dn j hi hM (by omega) (by omega)) (cwV 2 S.2.2.2.2 gX3_many_X3_upTo rfl rfl rfl (by decide +kernel) ⟨(Nat.le_of_ble_eq_true rfl), (Nat.le_of_ble_eq_true rfl)⟩) hG (by decide) hM.1 rfl rfl hl.1 rfl (Nat.le_of_ble_eq_true rfl) dX3_many_12 ⟨(Nat.le_of_ble_eq_true rfl), (Nat.le_of_ble_eq_true rfl)⟩ (fun r9 f9 H locs hp hG => ?_)
    obtain ⟨rfl, rfl⟩ := hp
    have lb_1 := upt_le (sz j) (of K j) hi (by omega)
    refine lv_aload_n S.1 S.2.1 dX3_many_15 rfl (lv_at hl 0 rfl) ?_
    refine lv_iload_n S.1 S.2.1 dX3_many_16 rfl (lv_at hl 1 rfl) ?_
    refine lv_iload_n S.1 S.2.1 dX3_many_17 rfl (lv_at hl 2 rfl) ?_
    refine o_cVi S (rest := [.int (nI (upt (sz j) (of K j) hi))]) (c_X3_below l G ad s0 f cd K V sz th pl dn j lo hM (by omega) (by omega)) (cwV 2 S.2.2.2.2 gX3_many_X3_below rfl rfl rfl (by decide +kernel) ⟨(Nat.le_of_ble_eq_true rfl), (Nat.le_of_ble_eq_true rfl)⟩) hG (by decide) hM.1 rfl rfl hl.1 rfl (Nat.le_of_ble_eq_true rfl) dX3_many_18 ⟨(Nat.le_of_ble_eq_true rfl), (Nat.le_of_ble_eq_true rfl)⟩ (fun r9 f9 H locs hp hG => ?_)
    obtain ⟨rfl, rfl⟩ := hp
    have lb_2 := bel_le (sz j) (of K j) lo
    refine o_sub S (a := upt (sz j) (of K j) hi) (b := bel (sz j) (of K j) lo) dX3_many_21 (man_le (by omega) c_2) ?_
    exact ret _ _ _ _ _ _ _ _ hG ⟨rfl, by rw [man, if_neg (i32_nlt c_2)]⟩ rfl (Nat.le_of_ble_eq_true rfl) (Nat.le_of_ble_eq_true rfl) dX3_many_22
  · skip
    refine lv_iconst (v := (nI 0)) S.1 S.2.1 dX3_many_5 (by decide) ?_
    refine lv_goto (tgt := 22) S.1 S.2.1 dX3_many_6 (by decide) ?_
    exact ret _ _ _ _ _ _ _ _ hG ⟨rfl, by rw [man, if_pos (i32_of_nle c_2)]⟩ rfl (Nat.le_of_ble_eq_true rfl) (Nat.le_of_ble_eq_true rfl) dX3_many_22

theorem spr_t {th : Nat → Bool} {b z : Nat} {r : Int32} (h : (∃ j, z < j ∧ j ≤ b ∧ th j = false ∧ (∀ i, z < i → i < j → th i = true) ∧ r = nI j) ∨ (r = (-1) ∧ ∀ i, z < i → i ≤ b → th i = true)) (ht : th z = true) (hz : 1 ≤ z) :
    (∃ j, z - 1 < j ∧ j ≤ b ∧ th j = false ∧ (∀ i, z - 1 < i → i < j → th i = true) ∧ r = nI j) ∨ (r = (-1) ∧ ∀ i, z - 1 < i → i ≤ b → th i = true) := by
  rcases h with ⟨j, h1, h2, h3, h4, h5⟩ | ⟨h1, h2⟩
  · refine Or.inl ⟨j, by omega, h2, h3, fun i g1 g2 => ?_, h5⟩
    by_cases e : i = z
    · rw [e]; exact ht
    · exact h4 i (by omega) g2
  · refine Or.inr ⟨h1, fun i g1 g2 => ?_⟩
    by_cases e : i = z
    · rw [e]; exact ht
    · exact h2 i (by omega) g2
theorem spr_e {th : Nat → Bool} {a b z : Nat} {r : Int32} (h : (∃ j, z < j ∧ j ≤ b ∧ th j = false ∧ (∀ i, z < i → i < j → th i = true) ∧ r = nI j) ∨ (r = (-1) ∧ ∀ i, z < i → i ≤ b → th i = true)) (hz : a = z + 1) :
    (∃ j, a ≤ j ∧ j ≤ b ∧ th j = false ∧ (∀ i, a ≤ i → i < j → th i = true) ∧ r = nI j) ∨ (r = (-1) ∧ ∀ i, a ≤ i → i ≤ b → th i = true) := by
  subst hz; exact h

set_option maxHeartbeats 4000000 in
set_option maxRecDepth 100000 in
theorem c_X3_spare (l : Launch) (G : Gx) (ad : Nat → Nat) (s0 : Nat) (f : Nat → va_E) (cd : Nat) (K V : Nat → Int32) (sz : Nat → Nat) (th : Nat → Bool) (pl : Nat → Int) (dn : Nat → Bool) (a b : Nat) (hM : MB G ad f cd K V sz th pl dn) (ha9 : 1 ≤ a) (hab : a ≤ b) (hb : b < 21) : mI l yX3_spare wsX3_spare 0 0 0 0 [.ref (ad 76), .int (nI a), .int (nI b)] G 84 ad s0 f (fun r f' => f = f' ∧ ((∃ j, a ≤ j ∧ j ≤ b ∧ th j = false ∧ (∀ i, a ≤ i → i < j → th i = true) ∧ r = nI j) ∨ (r = (-1) ∧ ∀ i, a ≤ i → i ≤ b → th i = true))) := by
  refine ov_mI (cc := cX3_spare) (maxL := 5) (ty := .int) (by decide) rfl (Nat.le_of_ble_eq_true rfl) ?_
  intro p e s m below meth c av Q S ret hG ls hl
  have S : CallFix p m c cX3_spare 5 s av wsX3_spare RX3 := S
  have hl : lv_has ls 5 [(0, .ref (ad 76)), (1, .int (nI a)), (2, .int (nI b))] := hl
  have i_X3 : ∀ w ∈ u_ws RX3 TX3 7, w ∈ wsX3_spare := by decide +kernel
  have kf_19 := S.2.2.2.2 (.fieldLink RX3 19 "OrderedVersionsModel" "there" "[Z") (by decide +kernel)
  refine lv_iconst (v := (-1)) S.1 S.2.1 dX3_spare_0 (by decide) ?_
  refine lv_istore_n (lv' := [(3, .int (-1)), (0, .ref (ad 76)), (1, .int (nI a)), (2, .int (nI b))]) S.1 S.2.1 dX3_spare_1 rfl hl (by decide) rfl (fun ls hl => ?_)
  refine lv_iload_n S.1 S.2.1 dX3_spare_2 rfl (lv_at hl 3 rfl) ?_
  refine lv_istore (lv' := [(4, .int (nI b)), (3, .int (-1)), (0, .ref (ad 76)), (1, .int (nI a)), (2, .int (nI b))]) S.1 S.2.1 dX3_spare_3 hl (by decide) rfl (fun ls hl => ?_)
  have L_5 : ∀ (d9 : Nat) (r0 : Int32) (z : Nat) (H : Heap) (locs : List Loc), (a ≤ z + 1 ∧ z ≤ b) → ((∃ j, z < j ∧ j ≤ b ∧ th j = false ∧ (∀ i, z < i → i < j → th i = true) ∧ r0 = nI j) ∨ (r0 = (-1) ∧ ∀ i, z < i → i ≤ b → th i = true)) → z < d9 → ov_dy G 84 ad s0 s f H locs → ∀ ls : Array Slot, lv_has ls 5 [(0, .ref (ad 76)), (1, .int (nI a)), (2, .int (nI b)), (3, .int r0), (4, .int (nI z))] → W p l e (ov_rm 0 0 0 0) s m av below meth c H locs 0 0 Q (F0 m 5 ls []) := by
    intro d9
    induction d9 with
    | zero => intro r0 z H locs hz hr h9; exact absurd h9 (Nat.not_lt_zero _)
    | succ d9 ih_5 =>
      intro r0 z H locs hz hr h9 hG ls hl
      refine lv_iload S.1 S.2.1 dX3_spare_5 (lv_at hl 4 rfl) ?_
      refine lv_iload_n S.1 S.2.1 dX3_spare_7 rfl (lv_at hl 1 rfl) ?_
      refine n_lt S (a := z) (b := a) (tgt := 34) dX3_spare_8 (by decide) (by omega) (by omega) (fun c_8 => ?_) (fun c_8 => ?_)
      · skip
        refine lv_iload_n S.1 S.2.1 dX3_spare_34 rfl (lv_at hl 3 rfl) ?_
        exact ret _ _ _ _ _ _ _ _ hG ⟨rfl, spr_e hr (by omega)⟩ rfl (Nat.le_of_ble_eq_true rfl) (Nat.le_of_ble_eq_true rfl) dX3_spare_35
      · skip
        refine lv_aload_n S.1 S.2.1 dX3_spare_11 rfl (lv_at hl 0 rfl) ?_
        refine o_get S hG i_X3 (by decide) hM.1 rfl 4 (by decide) kf_19 rfl dX3_spare_12 ?_
        refine lv_iload S.1 S.2.1 dX3_spare_15 (lv_at hl 4 rfl) ?_
        refine o_zald S hG (j := z) (by decide) hM.2.2.2.2.1 (by omega) dX3_spare_17 (kk := ?_)
        refine b_if_eq S (b := th z) (tgt := 25) dX3_spare_18 (by decide) (fun c_18 => ?_) (fun c_18 => ?_)
        · skip
          refine lv_iload S.1 S.2.1 dX3_spare_25 (lv_at hl 4 rfl) ?_
          refine lv_istore_n (lv' := [(3, .int (nI z)), (0, .ref (ad 76)), (1, .int (nI a)), (2, .int (nI b)), (4, .int (nI z))]) S.1 S.2.1 dX3_spare_27 rfl hl (by decide) rfl (fun ls hl => ?_)
          refine lv_iinc (v := (nI (z - 1))) (lv' := [(4, .int (nI (z - 1))), (3, .int (nI z)), (0, .ref (ad 76)), (1, .int (nI a)), (2, .int (nI b))]) S.1 S.2.1 dX3_spare_28 hl (k := 4) rfl (nI_dec (by omega)) (by decide) rfl (fun ls hl => ?_)
          refine lv_goto (tgt := 5) S.1 S.2.1 dX3_spare_31 (by decide) ?_
          exact ih_5 (nI z) (z - 1) _ _ (by omega) (Or.inl ⟨z, by omega, by omega, c_18, fun i h1 h2 => absurd h1 (by omega), rfl⟩) (by omega) hG ls (lv_sub hl [2, 3, 4, 1, 0] rfl)
        · skip
          refine lv_iload_n S.1 S.2.1 dX3_spare_21 rfl (lv_at hl 3 rfl) ?_
          refine lv_goto (tgt := 27) S.1 S.2.1 dX3_spare_22 (by decide) ?_
          refine lv_istore_n (lv' := [(3, .int r0), (0, .ref (ad 76)), (1, .int (nI a)), (2, .int (nI b)), (4, .int (nI z))]) S.1 S.2.1 dX3_spare_27 rfl hl (by decide) rfl (fun ls hl => ?_)
          refine lv_iinc (v := (nI (z - 1))) (lv' := [(4, .int (nI (z - 1))), (3, .int r0), (0, .ref (ad 76)), (1, .int (nI a)), (2, .int (nI b))]) S.1 S.2.1 dX3_spare_28 hl (k := 4) rfl (nI_dec (by omega)) (by decide) rfl (fun ls hl => ?_)
          refine lv_goto (tgt := 5) S.1 S.2.1 dX3_spare_31 (by decide) ?_
          exact ih_5 r0 (z - 1) _ _ (by omega) (spr_t hr c_18 (by omega)) (by omega) hG ls (lv_sub hl [2, 3, 4, 1, 0] rfl)
  exact L_5 _ (-1) b _ _ (by omega) (Or.inr ⟨rfl, fun i h1 h2 => absurd h1 (by omega)⟩) (Nat.lt_succ_self _) hG ls (lv_sub hl [2, 3, 4, 1, 0] rfl)
end

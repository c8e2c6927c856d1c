section OVN
/-- words that the makers need, carried from state to state -/
def ov_Nx (U : State) : Prop := va_Nw (.methodLinkNest RX2 9 yX1_init "OrderedVersions") U ∧ va_Nw (.methodLinkNest RX2 33 yX0_init "OrderedVersions") U ∧ va_Nw (.methodLinkNest RX0 9 yX1_init "OrderedVersions") U ∧ va_AO RX1 U ∧ va_AO RX0 U
theorem ov_Nx.warm {s U : State} (hW : s.WarmedH U.vm) (h : ov_Nx s) : ov_Nx U := ⟨h.1.warmM hW, h.2.1.warmM hW, h.2.2.1.warmM hW, h.2.2.2.1.moved hW.alike, h.2.2.2.2.moved hW.alike⟩
theorem ov_Nx.same {s U : State} (e : s.vm = U.vm) (h : ov_Nx s) : ov_Nx U := ⟨h.1.same rfl e, h.2.1.same rfl e, h.2.2.1.same rfl e, h.2.2.2.1.moved (by rw [e]; exact Vm.Alike.refl _), h.2.2.2.2.moved (by rw [e]; exact Vm.Alike.refl _)⟩
theorem ov_push {N : Nat} {ad : Nat → Nat} {f : Nat → va_E} {q : Nat} {e : va_E} : ov_wl N ad f ++ [(q, e)] = ov_wl (N + 1) (va_up ad N q) (va_up f N e) := by
  unfold ov_wl
  rw [List.range_succ, List.map_append]
  congr 1
  · apply List.map_congr_left
    intro k hk
    have := List.mem_range.mp hk
    rw [va_up_ne _ _ (by omega), va_up_ne _ _ (by omega)]
  · simp [va_up_self]
section
variable {p : Program} {l : Launch} {e : Env} {R : Room} {s : State} {m : MethodId} {args : Array Value} {below : List Frame} {meth : Method} {c : Code} {H : Heap} {locs : List Loc} {cells slots : Nat} {Q : State → Prop}
variable {cc : ByteArray} {pc : Nat} {ls : Array Slot} {st rest : List Value} {Ts : List Cond} {own : String} {nL : Nat}
variable {G : Gx} {N : Nat} {ad : Nat → Nat} {s0 : Nat} {f : Nat → va_E}
/-- one cell more: how the old ones go on -/
abbrev ov_gr (N : Nat) (ad ad1 : Nat → Nat) (f f1 : Nat → va_E) : Prop := (∀ k, k < N → ad1 k = ad k) ∧ ∀ k, k < N → f1 k = f k
theorem ov_dy.push {q : Nat} {x : va_E} {H1 : Heap} (h : ov_dy G N ad s0 s f H locs) (h1 : va_P G.1 vwCl (ov_wl N ad f ++ [(q, x)]) H1) (h2 : va_D (ov_A s0) (ov_wl N ad f ++ [(q, x)])) (h3 : va_S (ov_A s0) s.heap H1 locs) : ov_dy G (N + 1) (va_up ad N q) s0 s (va_up f N x) H1 locs := by
  rw [ov_push] at h1 h2
  exact ⟨h1, h2, h3, h.2.2.2.1, h.2.2.2.2.1, h.2.2.2.2.2⟩
theorem ov_dy.room {q : Nat} (h : ov_dy G N ad s0 s f H locs) (hq : s.heap.size ≤ q) : ov_A s0 q := Nat.le_trans h.2.2.2.2.2 hq
theorem ov_gr.one {q : Nat} {x : va_E} : ov_gr N ad (va_up ad N q) f (va_up f N x) := ⟨fun k hk => va_up_ne _ _ (by omega), fun k hk => va_up_ne _ _ (by omega)⟩
theorem o_new (S : CallFix p m c cc nL s args Ts own) (hG : ov_dy G N ad s0 s f H locs) {C : String} {T : u_T} {n ci index : Nat} (hin : ∀ w ∈ u_ws C T n, w ∈ Ts) {ty0 : Nat → FieldType} (hty : ∀ k, k < n → parseFieldDescriptor (T k).2.2.1 = some (ty0 k)) (hcl : (Cond.classLink own index C).before args s = true) (hinst : (Cond.instantiable C n).before args s = true) (hini : (Cond.initialized C).before args s = true) (hc : vwCl[ci]? = some (C, T, n)) {fs : List Value} (hfs : ∀ j, j < n → defaultValue (ty0 j) = vp_V fs j)
    (hcells : cells + 1 ≤ R.cells) (hslots : slots + n ≤ R.slots) (hdg : decode cc pc = .ok (.new index, 3))
    (kk : ∀ (ad1 : Nat → Nat) (f1 : Nat → va_E) (H1 : Heap), ov_gr N ad ad1 f f1 → f1 N = .inr (ci, fs) → ov_dy G (N + 1) ad1 s0 s f1 H1 locs → W p l e R s m args below meth c H1 locs (cells + 1) (slots + n) Q (F0 m (pc + 3) ls (.ref (ad1 N) :: rest))) : W p l e R s m args below meth c H locs cells slots Q (F0 m pc ls rest) := by
  refine va_new S.1 S.2.1 S.2.2.2.2 hin ty0 hty S.2.2.2.1 hcl hinst hini hG.2.2.2.1 hG.1 hG.2.1 hG.2.2.1 (fun q hq => hG.room hq) hc hfs hcells hslots hdg (fun q H1 h1 h2 h3 => ?_)
  have k := kk (va_up ad N q) (va_up f N (.inr (ci, fs))) H1 ov_gr.one (va_up_self ..) (hG.push h1 h2 h3)
  rw [va_up_self] at k
  exact k
theorem ov_cls {cA : ClassId} {ty : FieldType} {t0 : Nat} {cB : ClassId} (hK : va_K G.1 vwCl (ov_ty G ++ [(cA, ty)]) s) (ht : (ov_ty G)[t0]? = some (cB, ty)) (hn : ∀ C, ty ≠ .object C) : cA = cB := by
  have a := (hK.2 (ov_ty G).length (cA, ty) (by simp)).2
  have b := (hK.2 t0 (cB, ty) (by rw [List.getElem?_append_left (by simpa using (List.getElem?_eq_some_iff.mp ht).1)]; exact ht)).2
  cases ty with
  | object C => exact absurd rfl (hn C)
  | _ => exact Option.some.inj (a.symm.trans b)
theorem ov_clsR {cA : ClassId} {C : String} {t0 : Nat} {cB : ClassId} (hK : va_K G.1 vwCl (ov_ty G ++ [(cA, .object C)]) s) (ht : (ov_ty G)[t0]? = some (cB, .object C)) : cA = cB := by
  obtain ⟨_, _, _, _, _, a⟩ := (hK.2 (ov_ty G).length (cA, .object C) (by simp)).2
  obtain ⟨_, _, _, _, _, b⟩ := (hK.2 t0 (cB, .object C) (by rw [List.getElem?_append_left (by simpa using (List.getElem?_eq_some_iff.mp ht).1)]; exact ht)).2
  exact Option.some.inj (a.symm.trans b)
/-- a new row of numbers or truths -/
theorem o_newa (S : CallFix p m c cc nL s args Ts own) (hG : ov_dy G N ad s0 s f H locs) {atype : ArrayType} (harr : (Cond.arrayClass (newarray.typeOf atype)).before args s = true) {ty : FieldType} (hty : newarray.typeOf atype = ty) {t0 : Nat} {cB : ClassId} (ht : (ov_ty G)[t0]? = some (cB, ty)) (hno : ∀ C, ty ≠ .object C) {n : Nat} {a0 : vp_A} (ha : ∀ cA : ClassId, vp_cell cA a0 = arrV cA n (fun _ => defaultValue ty)) (hn : n < 2 ^ 31) (hbytes : n * componentBytes ty ≤ 536870912) (hcells : cells + 1 ≤ R.cells) (hslots : slots + n ≤ R.slots) (hdg : decode cc pc = .ok (.newarray atype, 2))
    (kk : ∀ (ad1 : Nat → Nat) (f1 : Nat → va_E) (H1 : Heap), ov_gr N ad ad1 f f1 → f1 N = .inl (cB, a0) → ov_dy G (N + 1) ad1 s0 s f1 H1 locs → W p l e R s m args below meth c H1 locs (cells + 1) (slots + n) Q (F0 m (pc + 2) ls (.ref (ad1 N) :: rest))) : W p l e R s m args below meth c H locs cells slots Q (F0 m pc ls (.int (nI n) :: rest)) := by
  refine va_newa S.1 S.2.1 harr hty hG.2.2.2.1 hG.1 hG.2.1 hG.2.2.1 (fun q hq => hG.room hq) ha (nI_pos hn) (nI_clamp hn) hbytes hcells hslots hdg (fun q cA H1 h0 h1 h2 h3 => ?_)
  obtain rfl : cA = cB := ov_cls h0 ht hno
  have k := kk (va_up ad N q) (va_up f N (.inl (cA, a0))) H1 ov_gr.one (va_up_self ..) (hG.push h1 h2 h3)
  rw [va_up_self] at k
  exact k
theorem o_newq (S : CallFix p m c cc nL s args Ts own) (hG : ov_dy G N ad s0 s f H locs) {C : String} {index : Nat} (hcl : (Cond.classLink own index C).before args s = true) (hover : va_AO C s) {t0 : Nat} {cB : ClassId} (ht : (ov_ty G)[t0]? = some (cB, .object C)) {n : Nat} (hn : n < 2 ^ 31) (hbytes : n * 4 ≤ 536870912) (hcells : cells + 1 ≤ R.cells) (hslots : slots + n ≤ R.slots) (hdg : decode cc pc = .ok (.anewarray index, 3))
    (kk : ∀ (ad1 : Nat → Nat) (f1 : Nat → va_E) (H1 : Heap), ov_gr N ad ad1 f f1 → f1 N = .inl (cB, n, .inr (.inr (.inr (.inr (fun _ => none))))) → ov_dy G (N + 1) ad1 s0 s f1 H1 locs → W p l e R s m args below meth c H1 locs (cells + 1) (slots + n) Q (F0 m (pc + 3) ls (.ref (ad1 N) :: rest))) : W p l e R s m args below meth c H locs cells slots Q (F0 m pc ls (.int (nI n) :: rest)) := by
  refine va_newq S.1 S.2.1 S.2.2.2.1 hcl hover hG.2.2.2.1 hG.1 hG.2.1 hG.2.2.1 (fun q hq => hG.room hq) (nI_pos hn) (nI_clamp hn) hbytes hcells hslots hdg (fun q cA H1 h0 h1 h2 h3 => ?_)
  obtain rfl : cA = cB := ov_clsR h0 ht
  have k := kk (va_up ad N q) (va_up f N (.inl (cA, n, .inr (.inr (.inr (.inr (fun _ => none))))))) H1 ov_gr.one (va_up_self ..) (hG.push h1 h2 h3)
  rw [va_up_self] at k
  exact k
theorem o_putF (S : CallFix p m c cc nL s args Ts own) (hG : ov_dy G N ad s0 s f H locs) {C : String} {T : u_T} {n ci index : Nat} (hin : ∀ w ∈ u_ws C T n, w ∈ Ts) {ty0 : Nat → FieldType} (hty : ∀ k, k < n → parseFieldDescriptor (T k).2.2.1 = some (ty0 k)) (hnm : ∀ a, a < n → ∀ b, b < n → a ≠ b → (T a).2.1 ≠ (T b).2.1) {a : Nat} (ha : a < N) {fs : List Value} (he : f a = .inr (ci, fs)) (hc : vwCl[ci]? = some (C, T, n)) (k : Nat) (hk : k < n)
    (hlink : (Cond.fieldLink own index (T k).1 (T k).2.1 (T k).2.2.1).before args s = true) (hfin : (T k).2.2.2 = true) (hin2 : meth.name = "<init>") (hdecl : (T k).1 = own) {v : Value} (hn : narrow (ty0 k) v = v) (hfit : fits (ty0 k) v = true) (hl : k < fs.length) (hdg : decode cc pc = .ok (.putfield index, 3))
    (kk : ∀ (f1 : Nat → va_E) (H1 : Heap) (locs1 : List Loc), (∀ z, z ≠ a → f1 z = f z) → f1 a = .inr (ci, fs.set k v) → ov_dy G N ad s0 s f1 H1 locs1 → W p l e R s m args below meth c H1 locs1 cells slots Q (F0 m (pc + 3) ls rest)) : W p l e R s m args below meth c H locs cells slots Q (F0 m pc ls (v :: .ref (ad a) :: rest)) :=
  va_putF S.1 S.2.1 S.2.2.2.2 hin ty0 hty hnm S.2.2.2.1 hG.2.2.2.1 hG.1 hG.2.1 hG.2.2.1 a (ov_get ha he) hc k hk hlink (fun _ h => h) hfin hin2 hdecl (hty k hk) hn hfit hl hdg (fun H1 l1 h1 h2 h3 => kk _ H1 l1 (fun z hz => va_up_ne _ _ hz) (va_up_self ..) (hG.up ha h1 h2 h3))
theorem o_ast (S : CallFix p m c cc nL s args Ts own) (hG : ov_dy G N ad s0 s f H locs) {a b n j t0 ci : Nat} {cB : ClassId} {r : vw_C} {g : Nat → Option Nat} {vs : List Value} (ha : a < N) (hb : b < N) (he : f a = .inl (cB, n, .inr (.inr (.inr (.inr g))))) (ht : (ov_ty G)[t0]? = some (cB, .object r.1)) (hv : f b = .inr (ci, vs)) (hc : vwCl[ci]? = some r) (hj : j < n) (hn : n < 2 ^ 31) (hdg : decode cc pc = .ok (.aastore, 1))
    (kk : ∀ (f1 : Nat → va_E) (H1 : Heap) (locs1 : List Loc), (∀ z, z ≠ a → f1 z = f z) → f1 a = .inl (cB, n, .inr (.inr (.inr (.inr (va_up g j (some (ad b))))))) → ov_dy G N ad s0 s f1 H1 locs1 → W p l e R s m args below meth c H1 locs1 cells slots Q (F0 m (pc + 1) ls rest)) : W p l e R s m args below meth c H locs cells slots Q (F0 m pc ls (.ref (ad b) :: .int (nI j) :: .ref (ad a) :: rest)) :=
  va_astq S.1 S.2.1 hG.2.2.2.1 hG.1 hG.2.1 hG.2.2.1 a t0 b ci (ov_get ha he) ht (ov_get hb hv) hc (vp_in_nI hj hn) hdg (fun H1 l1 h1 h2 h3 => by
    rw [nI_clamp (Nat.lt_trans hj hn)] at h1 h2
    exact kk _ H1 l1 (fun z hz => va_up_ne _ _ hz) (va_up_self ..) (hG.up ha h1 h2 h3))
theorem ov_dy.next2 {t : State} {N' : Nat} {ad' : Nat → Nat} {f' : Nat → va_E} {H1 : Heap} {locs1 : List Loc} (h : ov_dy G N ad s0 s f H locs) (hw : ov_wo G N' ad' s0 f' t) (ht : t.heap = H1) (hS : va_S (ov_A s0) s.heap H1 locs1) : ov_dy G N' ad' s0 s f' H1 locs1 :=
  ⟨by rw [← ht]; exact hw.1, hw.2.1, hS, h.2.2.2.1, h.2.2.2.2.1, h.2.2.2.2.2⟩
/-- a maker: the world of N cells becomes one of N' -/
abbrev mC (l : Launch) (y : MethodName) (ws : List Cond) (fr lo mc ms : Nat) (As : List Value) (G : Gx) (N : Nat) (ad : Nat → Nat) (s0 : Nat) (f : Nat → va_E) (N' : Nat) (post : (Nat → Nat) → (Nat → va_E) → Prop) : Prop :=
  Met l y ws (ov_rm fr lo mc ms) (va_Pc As (fun U => ov_wo G N ad s0 f U ∧ ov_Nx U)) (va_Qv (fun u : (Nat → Nat) × (Nat → va_E) => post u.1 u.2) (fun u t => ov_wo G N' u.1 s0 u.2 t) (ov_A s0)) mc ms (ov_A s0)
abbrev rC (p : Program) (l : Launch) (e : Env) (R : Room) (s : State) (m : MethodId) (av : Array Value) (below : List Frame) (meth : Method) (c : Code) (Q : State → Prop) (cc : ByteArray) (mc ms : Nat) (G : Gx) (N' : Nat) (s0 : Nat) (post : (Nat → Nat) → (Nat → va_E) → Prop) : Prop :=
  ∀ (ad' : Nat → Nat) (f' : Nat → va_E) (H : Heap) (locs : List Loc) (k n pc : Nat) (ls : Array Slot), ov_dy G N' ad' s0 s f' H locs → post ad' f' → k ≤ mc → n ≤ ms → decode cc pc = .ok (.return_, 1) → W p l e R s m av below meth c H locs k n Q (F0 m pc ls [])
theorem ov_blindC {av : List Value} : FrameBlind (va_Pc av (fun U => ov_wo G N ad s0 f U ∧ ov_Nx U)) := fun a U g mk h =>
  ⟨h.1, ⟨h.2.1.1, h.2.1.2.1, va_K.moved (u := U) (U := U.calling g mk a) (Vm.Alike.refl U.vm) h.2.1.2.2.1, ov_Z.moved (u := U) (U := U.calling g mk a) (Vm.Alike.refl U.vm) h.2.1.2.2.2.1, h.2.1.2.2.2.2⟩, ov_Nx.same (s := U) (U := U.calling g mk a) rfl h.2.2⟩
theorem ov_mC {y : MethodName} {ws ws' : List Cond} {fr lo mc ms maxL N' : Nat} {As : List Value} {post : (Nat → Nat) → (Nat → va_E) → Prop} (hy : plainName y.cls = true) (hw : ws = Cond.code y cc maxL none :: ws') (hA : (lg_sl As).length ≤ maxL)
    (body : ∀ (p : Program) (e : Env) (s : State) (m : MethodId) (below : List Frame) (meth : Method) (c : Code) (av : Array Value) (Q : State → Prop), CallFix p m c cc maxL s av ws y.cls → meth.name = y.name → rC p l e (ov_rm fr lo mc ms) s m av below meth c Q cc mc ms G N' s0 post → ov_dy G N ad s0 s f s.heap [] → ov_Nx s → ∀ ls : Array Slot, lv_has ls maxL (lv_args 0 As) →
      W p l e (ov_rm fr lo mc ms) s m av below meth c s.heap [] 0 0 Q (F0 m 0 ls [])) : mC l y ws fr lo mc ms As G N ad s0 f N' post := by
  refine Met.ofW (cc := cc) (maxL := maxL) (ret := none) hy hw ?_
  intro p e s m args below meth c s₁ B hml hv
  obtain ⟨rfl, hwo, hNx⟩ := hv
  have S : CallFix p m c cc maxL s As.toArray ws y.cls := ⟨B.exec, B.bytes, hml, findClass_of_methodNamed B.named, atoms_spec (ws := ws) B.pre⟩
  have hl := lv_entry As (n := maxL) hA
  rw [lg_entry_eq]
  exact body p e s m below meth c _ _ S (name_of_methodNamed B.named B.method).1 (fun ad' f' H locs k n pc ls hG hp hc hs d => W.widen hc hs (W.vret S.1 S.2.1 B.returns (fun t ht hW => ⟨⟨(ad', f'), rfl, hp, hG.wo ht hW.alike⟩, hG.2.2.1.F ht⟩) hG.2.2.1.2.2 d B.notSynchronized)) (ov_dy.of hwo) hNx _ hl
/-- the call of a maker, of a nest mate's or of a public one -/
theorem o_cI {y : MethodName} {bytes : ByteArray} {maxL mc ms fr lo N' index a : Nat} {ws : List Cond} {post : (Nat → Nat) → (Nat → va_E) → Prop} (S : CallFix p m c cc nL s args Ts own) (hM : mC l y ws fr lo mc ms [.ref (ad a)] G N ad s0 f N' post) (cw : CallB R s args own index y bytes maxL none ws (ov_rm fr lo mc ms) mc ms 0 ∧ y.name = "<init>" ∧ (Cond.instanceMethod y).before args s = true) (hG : ov_dy G N ad s0 s f H locs) (hNx : ov_Nx s)
    (hls : ls.size = nL) (hst : st = .ref (ad a) :: rest) (hro : (rest.map fun v => v.category).sum ≤ 8) (hdg : decode cc pc = .ok (.invokespecial index, 3)) (hf : cells + mc ≤ R.cells ∧ slots + ms ≤ R.slots)
    (kk : ∀ (ad' : Nat → Nat) (f' : Nat → va_E) (H1 : Heap) (locs1 : List Loc), post ad' f' → ov_dy G N' ad' s0 s f' H1 locs1 → W p l e R s m args below meth c H1 locs1 (cells + mc) (slots + ms) Q (F0 m (pc + 3) ls rest)) : W p l e R s m args below meth c H locs cells slots Q (F0 m pc ls st) :=
  va_callv (va_runI (As := []) (rest := rest) S hM cw ⟨ov_blindC, fun U hU hW => ⟨rfl, hG.wo hU hW.alike, hNx.warm hW⟩⟩ rfl rfl hls hst (lv_room hro) hdg hf) hG.2.2.1 (fun _ _ h => h) (fun _ h => h) (fun u t H1 l1 ht hv hp hB _ _ hS => kk u.1 u.2 H1 l1 hp (hG.next2 hB ht hS))
theorem o_cN {y : MethodName} {bytes : ByteArray} {maxL mc ms fr lo N' index a : Nat} {host : String} {ws : List Cond} {post : (Nat → Nat) → (Nat → va_E) → Prop} (S : CallFix p m c cc nL s args Ts own) (hM : mC l y ws fr lo mc ms [.ref (ad a)] G N ad s0 f N' post) (cw : va_CN R s args own index y host bytes maxL none ws (ov_rm fr lo mc ms) mc ms 0 ∧ y.name = "<init>" ∧ (Cond.instanceMethod y).before args s = true) (hG : ov_dy G N ad s0 s f H locs) (hNx : ov_Nx s)
    (hls : ls.size = nL) (hst : st = .ref (ad a) :: rest) (hro : (rest.map fun v => v.category).sum ≤ 8) (hdg : decode cc pc = .ok (.invokespecial index, 3)) (hf : cells + mc ≤ R.cells ∧ slots + ms ≤ R.slots)
    (kk : ∀ (ad' : Nat → Nat) (f' : Nat → va_E) (H1 : Heap) (locs1 : List Loc), post ad' f' → ov_dy G N' ad' s0 s f' H1 locs1 → W p l e R s m args below meth c H1 locs1 (cells + mc) (slots + ms) Q (F0 m (pc + 3) ls rest)) : W p l e R s m args below meth c H locs cells slots Q (F0 m pc ls st) :=
  va_callv (va_runIN (As := []) (rest := rest) S hM cw ⟨ov_blindC, fun U hU hW => ⟨rfl, hG.wo hU hW.alike, hNx.warm hW⟩⟩ rfl rfl hls hst (lv_room hro) hdg hf) hG.2.2.1 (fun _ _ h => h) (fun _ h => h) (fun u t H1 l1 ht hv hp hB _ _ hS => kk u.1 u.2 H1 l1 hp (hG.next2 hB ht hS))
end
theorem cell_I (n : Nat) (cA : ClassId) : vp_cell cA (n, .inl (fun _ => 0)) = arrV cA n (fun _ => defaultValue .int) := rfl
theorem cell_Z (n : Nat) (cA : ClassId) : vp_cell cA (n, .inl (fun _ => 0)) = arrV cA n (fun _ => defaultValue .boolean) := rfl
theorem cell_J (n : Nat) (cA : ClassId) : vp_cell cA (n, .inr (.inl (fun _ => 0))) = arrV cA n (fun _ => defaultValue .long) := rfl
theorem TB.grow {G : Gx} {N N' : Nat} {ad ad1 : Nat → Nat} {f f1 : Nat → va_E} {t n : Nat} {k v : Nat → Int32} (h : TB G N ad f t n k v) (hg : ov_gr N ad ad1 f f1) (hN : N ≤ N') : TB G N' ad1 f1 t n k v := by
  have h4 := h.2.2.2.2
  refine ⟨?_, ?_, ?_, h.2.2.2.1, by omega⟩
  · rw [hg.2 t (by omega), hg.1 (t + 1) (by omega), hg.1 (t + 2) (by omega)]; exact h.1
  · rw [hg.2 (t + 1) (by omega)]; exact h.2.1
  · rw [hg.2 (t + 2) (by omega)]; exact h.2.2.1
theorem TB.gr1 {G : Gx} {N a : Nat} {ad : Nat → Nat} {f f1 : Nat → va_E} {t n : Nat} {k v : Nat → Int32} (h : TB G N ad f t n k v) (hz : ∀ z, z ≠ a → f1 z = f z) (ha : a < t ∨ t + 2 < a) : TB G N ad f1 t n k v := h.keep (hz _ (by omega)) (hz _ (by omega)) (hz _ (by omega))
theorem ov_gr.tr {N N' : Nat} {ad ad1 ad2 : Nat → Nat} {f f1 f2 : Nat → va_E} (h : ov_gr N ad ad1 f f1) (h2 : ov_gr N' ad1 ad2 f1 f2) (hN : N ≤ N') : ov_gr N ad ad2 f f2 := ⟨fun k hk => (h2.1 k (by omega)).trans (h.1 k hk), fun k hk => (h2.2 k (by omega)).trans (h.2 k hk)⟩
end OVN

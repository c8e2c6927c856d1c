/-! THE CLAIM OUT OF ONE WALK OF THE LAW'S BODY. Your part is whole_start (and what it stands on); all else here is the same for every law, but numbers. -/
def R_law : String := "OrderedVersionsLaw"
def lw_P (b : Addr) (xs : List Int32) (args : Array Value) (s : State) : Prop := args = #[.ref b] ∧ s.IntsAt b xs ∧ xs.length ≤ 384 ∧ (Jvm.Cond.and given_1 narrow_1).before args s = true
def lw_Q (_ : Array Value) (s : State) (o : Outcome) (t : State) : Prop := o = .returned (some (.int 1)) ∧ Framed s o t [] 600128 7301098
def lw_Z (below : List Frame) (a : Array Value) (s : State) : State → Prop := fun t => ∃ o, t.status = .running ∧ Ended t below o ∧ lw_Q a s o t
/-- the law's own end, with 1 on the stack, nothing written that was there before, its room as the claim has it -/
theorem lw_ret {p : Program} {l : Launch} {e : Env} {s : State} {m : MethodId} {below : List Frame} {meth : Method} {c : Code} {b : Nat} (hx : p.tables.exec = Jvm.exec) (hb : c.code = code) (hr : meth.sig.returnType = ret) (hlocks : meth.locks = false) {pc : Nat} {H : Heap} {ls : Array Slot} (hdg : decode code pc = .ok (.ireturn, 1)) : W p l e room_1 s m #[Value.ref b] below meth c H [] 600128 7301098 (lw_Z below #[Value.ref b] s) (F0 m pc ls [.int 1]) := by
  intro T hT X
  obtain ⟨fs, hret, hrun, hended, hW, hframe⟩ := X.leave (v := some (.int 1)) (hlocks := hlocks) (fun h => by rw [hr] at h; cases h)
  have hmeth' : T.vm.method? m = some meth := X.method'
  refine ⟨T.setFrames fs, ?_, .returned (some (.int 1)), hrun, hended, rfl, ⟨_, rfl⟩, hW, hframe⟩
  jvm_step X.here [X.here.top, hx, hb, hdg, hmeth', hr, ret, narrow_b1]
  (try refine ⟨rfl, ?_⟩); (try refine ⟨rfl, ?_⟩)
  first | (intro acts; rw [hret _ acts rfl rfl rfl]) | rw [hret _ _ rfl rfl rfl]
  exact Steps.refl _
/-- what holds at the law's entry: the machine, the code, the tables' words (any of lw_tbl by 'hts w (by decide +kernel)'), the script of L ints xs at the cell b, what the Statement gives of the start (any of its parts by flat_of_before) -/
def lw_At (p : Program) (s : State) (m : MethodId) (meth : Method) (c : Code) (b L : Nat) (xs : Nat → Int32) : Prop :=
  p.tables.exec = Jvm.exec ∧ c.code = code ∧ meth.sig.returnType = ret ∧ c.maxLocals = 8 ∧ s.vm.findClass R_law = some m.cls ∧ (∀ w ∈ lw_tbl, w.before #[Value.ref b] s = true) ∧ va_X b L xs s s.heap ∧ b < s.heap.size ∧ meth.locks = false ∧ (Jvm.Cond.and given_1 narrow_1).before #[Value.ref b] s = true
section OVL
variable {p : Program} {l : Launch} {e : Env} {R : Room} {s : State} {m : MethodId} {args : Array Value} {below : List Frame} {meth : Method} {c : Code} {H : Heap} {locs : List Loc} {cells slots : Nat} {Q : State → Prop}
variable {cc : ByteArray} {pc : Nat} {ls : Array Slot} {rest : List Value} {Ts : List Cond} {own : String} {nL : Nat}
variable {G : Gx} {N : Nat} {ad : Nat → Nat} {f : Nat → va_E}
theorem o_sld (S : CallFix p m c cc nL s args Ts own) (hG : ov_dy G N ad s.heap.size s f H locs) {b L : Nat} {xs : Nat → Int32} (hX : va_X b L xs s s.heap) (hbl : b < s.heap.size) (hL : L ≤ 384) {j : Nat} (hj : j < L) (hdg : decode cc pc = .ok (.iaload, 1))
    (kk : W p l e R s m args below meth c H locs cells slots Q (F0 m (pc + 1) ls (.int (xs j) :: rest))) : W p l e R s m args below meth c H locs cells slots Q (F0 m pc ls (.int (nI j) :: .ref b :: rest)) :=
  va_sld S.1 S.2.1 hX hbl (Nat.not_le.mpr hbl) hG.2.2.1 (vp_in_nI hj (by omega)) hdg (by rw [nI_clamp (by omega)]; exact kk)
theorem o_slen (S : CallFix p m c cc nL s args Ts own) (hG : ov_dy G N ad s.heap.size s f H locs) {b L : Nat} {xs : Nat → Int32} (hX : va_X b L xs s s.heap) (hbl : b < s.heap.size) (hdg : decode cc pc = .ok (.arraylength, 1))
    (kk : W p l e R s m args below meth c H locs cells slots Q (F0 m (pc + 1) ls (.int (nI L) :: rest))) : W p l e R s m args below meth c H locs cells slots Q (F0 m pc ls (.ref b :: rest)) :=
  va_slen S.1 S.2.1 hX hbl (Nat.not_le.mpr hbl) hG.2.2.1 hdg kk
theorem hp_k1 {g : Nat → Int64} {α : Type} {post : α → (Nat → va_E) → Prop} {val : α → Int64} {X1 : Prop} {r : Int32} {f' : Nat → va_E} (h : (r = nI 0 ∧ ∃ w f1, post w f1 ∧ f' = va_up f1 83 (eJ G 1 (vp_updL g 0 (val w)))) ∨ (r = nI 1 ∧ X1 ∧ f' = f)) (hp : ∀ w f1, post w f1 → OnX f f1) : ∀ c, 76 ≤ c → c ≤ 82 → f' c = f c :=
  HP.keep (G := G) (g := g) (post := post) (val := val) (X1 := X1) (X2 := False) (r := r) (h.imp_right Or.inl) hp
theorem hp_k2 {g : Nat → Int64} {α : Type} {post : α → (Nat → va_E) → Prop} {val : α → Int64} {X1 X2 : Prop} {r : Int32} {f' : Nat → va_E} (h : (r = nI 0 ∧ ∃ w f1, post w f1 ∧ f' = va_up f1 83 (eJ G 1 (vp_updL g 0 (val w)))) ∨ (r = nI 1 ∧ X1 ∧ f' = f) ∨ (r = nI 2 ∧ X2 ∧ f' = f)) (hp : ∀ w f1, post w f1 → OnX f f1) : ∀ c, 76 ≤ c → c ≤ 82 → f' c = f c :=
  HP.keep (G := G) (g := g) (post := post) (val := val) (X1 := X1) (X2 := X2) (r := r) h hp
/-- how a round of the law's loop goes on -/
abbrev lw_K (p : Program) (l : Launch) (e : Env) (s : State) (m : MethodId) (b : Nat) (below : List Frame) (meth : Method) (c : Code) (Q : State → Prop) (G : Gx) (ad : Nat → Nat) (i cells slots : Nat) : Prop :=
  ∀ (f' : Nat → va_E) (cd' : Nat) (g' : Nat → Int64) (H' : Heap) (locs' : List Loc) (ls' : Array Slot), LV G ad f' cd' → f' 83 = eJ G 1 g' → ov_dy G 84 ad s.heap.size s f' H' locs' → lv_has ls' 8 [(4, .int (nI i)), (3, .ref (ad 83)), (2, .ref (ad 76)), (1, .ref (ad 0)), (0, .ref b)] →
    W p l e room_1 s m #[Value.ref b] below meth c H' locs' (cells + 3) (slots + 18) Q (F0 m 1628 ls' [])
end OVL

section OVH
/-! bodies with handlers, and their calls -/
theorem ov_hI {l : Launch} {y : MethodName} {ws ws' : List Cond} {fr lo mc ms : Nat} {As : List Value} {G : Gx} {N : Nat} {ad : Nat → Nat} {s0 : Nat} {f : Nat → va_E} {cc : ByteArray} {maxL : Nat} {hh : List (Nat × Nat × Nat × Nat)} {post : Int32 → (Nat → va_E) → Prop}
    (hy : plainName y.cls = true) (hw : ws = Cond.codeWith y cc maxL (some .int) hh :: ws') (hA : (lg_sl As).length ≤ maxL)
    (body : ∀ (p : Program) (e : Env) (s : State) (m : MethodId) (below : List Frame) (meth : Method) (c : Code) (av : Array Value) (Q : State → Prop), CallFix p m c cc maxL s av ws y.cls → c.exceptionTable.toList = tableOf hh → rI p l e (ov_rm fr lo mc ms) s m av below meth c Q cc .int mc ms G N ad s0 post → ov_dy G N ad s0 s f s.heap [] → ∀ ls : Array Slot, lv_has ls maxL (lv_args 0 As) →
      W p l e (ov_rm fr lo mc ms) s m av below meth c s.heap [] 0 0 Q (F0 m 0 ls [])) : mI l y ws fr lo mc ms As G N ad s0 f post := by
  refine MetFree.of_bodyS (code := cc) (maxLocals := maxL) (ret := some .int) hy ?_ ?_
  · intro args s m h hn
    obtain ⟨m9, meth, c, hn9, h1, h2, h3, h4, -, h5, h6, -⟩ := Cond.codeWith_spec (atoms_spec (ws := ws) h _ (by rw [hw]; exact List.mem_cons_self))
    cases hn.symm.trans hn9
    exact ⟨meth, c, h1, h2, h3, h4, h5, h6⟩
  · intro p e s m args below meth c s₁ B hml hP _
    obtain ⟨rfl, hwo⟩ := hP
    have hh0 : s₁.heap = s.heap := by rw [B.state]; rfl
    have S : CallFix p m c cc maxL s As.toArray ws y.cls := ⟨B.exec, B.bytes, hml, findClass_of_methodNamed B.named, atoms_spec (ws := ws) B.pre⟩
    have hl := lv_entry As (n := maxL) hA
    have ht : c.exceptionTable.toList = tableOf hh := vx_table (x := y) B (atoms_spec (ws := ws) B.pre _ (by rw [hw]; exact List.mem_cons_self))
    have k := body p e s m below meth c As.toArray (MQ below (va_Qi post (ov_wo G N ad s0) (ov_A s0)) As.toArray s mc ms (ov_A s0)) S ht (fun v f' H locs k n pc ls hG hp hn hc hs d => W.widen hc hs (W.zret S.1 S.2.1 B.returns hn (fun t ht hW => ⟨⟨v, f', rfl, hp, hG.wo ht hW.alike⟩, hG.2.2.1.F ht⟩) hG.2.2.1.2.2 d B.notSynchronized)) (ov_dy.of hwo) _ hl
    have k2 : W p l e (ov_rm fr lo mc ms) s m As.toArray below meth c s.heap [] 0 0 (MQ below (va_Qi post (ov_wo G N ad s0) (ov_A s0)) As.toArray s mc ms (ov_A s0)) (entryFrame m As.toArray maxL) := by rw [lg_entry_eq]; exact k
    obtain ⟨t, a1, o, b1, b2, b3⟩ := k2 s₁ hh0 (Stand.of_body B)
    exact ⟨t, o, a1, b1, b2, b3⟩
section
variable {p : Program} {l : Launch} {e : Env} {R : Room} {s : State} {m : MethodId} {args : Array Value} {below : List Frame} {meth : Method} {c : Code} {H : Heap} {locs : List Loc} {cells slots : Nat} {Q : State → Prop}
variable {cc : ByteArray} {pc : Nat} {ls : Array Slot} {st rest : List Value} {Ts : List Cond} {own : String} {nL : Nat}
variable {G : Gx} {N : Nat} {ad : Nat → Nat} {s0 : Nat} {f : Nat → va_E}
theorem o_cSW {y : MethodName} {bytes : ByteArray} {maxL mc ms fr lo n index : Nat} {ret : Option FieldType} {hh : List (Nat × Nat × Nat × Nat)} {ws : List Cond} {As : List Value} {post : Int32 → (Nat → va_E) → Prop} (S : CallFix p m c cc nL s args Ts own) (hM : mI l y ws fr lo mc ms As G N ad s0 f post) (cw : vx_CSW R s args own index y bytes maxL ret hh ws (ov_rm fr lo mc ms) mc ms n) (hG : ov_dy G N ad s0 s f H locs)
    (hn : As.length = n) (hls : ls.size = nL) (hst : st = As.reverse ++ rest) (hro : (rest.map fun v => v.category).sum ≤ 8) (hdg : decode cc pc = .ok (.invokestatic index, 3)) (hf : cells + mc ≤ R.cells ∧ slots + ms ≤ R.slots)
    (kk : ∀ (r : Int32) (f' : Nat → va_E) (H1 : Heap) (locs1 : List Loc), post r f' → ov_dy G N ad s0 s f' H1 locs1 → W p l e R s m args below meth c H1 locs1 (cells + mc) (slots + ms) Q (F0 m (pc + 3) ls (.int r :: rest))) : W p l e R s m args below meth c H locs cells slots Q (F0 m pc ls st) :=
  va_calli (vx_runSW (As := As) (rest := rest) S hM cw (ov_preS hG) rfl hn hls hst (lv_room hro) hdg hf) hG.2.2.1 (fun _ _ h => h) (fun _ h => h) (fun r u t H1 l1 ht hv hp hB _ _ hS => kk r u H1 l1 hp (hG.next hB ht hS))
end
end OVH

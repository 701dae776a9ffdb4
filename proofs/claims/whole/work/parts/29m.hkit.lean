/-! ===== the law's helpers: calls that are caught ===== -/
abbrev TY3 (cyI cyO cyJ : ClassId) : List (ClassId × FieldType) := [(cyI, .int), (cyO, .object "DoorstepRounds$Dairy"), (cyJ, .long)]
abbrev CH (l : Launch) (D : va_G) (tys : List (ClassId × FieldType)) (y : MethodName) (ws : List Cond) (rm : Room) (av : List Value) (gi : List va_W) (R0 : Int32) (go : List va_W) : Prop :=
  ∀ sz : Nat, Met l y ws rm (xPre D tys av gi sz) (va_Qi (fun (r : Int32) (_ : Unit) => r = R0) (fun _ => cB D tys (va_A (cat gi) sz) go) (va_A (cat gi) sz)) 1 6 (va_A (cat gi) sz)
section HSTART
variable {l : Launch} {D : va_G} {tys : List (ClassId × FieldType)} {y : MethodName} {ws ws' : List Cond} {rm : Room} {av : List Value} {gi go : List va_W} {cc : ByteArray} {maxL : Nat} {ret : Option FieldType} {hh : List (Nat × Nat × Nat × Nat)} {R0 : Int32}
theorem wk_H (hy : plainName y.cls = true) (hw : ws = Cond.codeWith y cc maxL ret hh :: ws') (hlen : (lg_sl av).length ≤ maxL)
    (body : ∀ (p : Program) (e : Env) (s : State) (m : MethodId) (below : List Frame) (meth : Method) (c : Code) (A : Nat → Prop) (ls : Array Slot),
    p.tables.exec = Jvm.exec → c.code = cc → meth.sig.returnType = ret → (∀ w ∈ ws, w.before av.toArray s = true) → s.vm.findClass y.cls = some m.cls → meth.locks = false → c.maxLocals = maxL → va_K D vwCl tys s →
    (∀ q : Nat, s.heap.size ≤ q → A q) → va_D A (cat gi) → va_P D vwCl (cat gi) s.heap → lv_has ls maxL (lv_args 0 av) → va_S A s.heap s.heap [] → XS A s s.heap → c.exceptionTable.toList = tableOf hh →
    W p l e rm s m av.toArray below meth c s.heap [] 0 0 (MQ below (va_Qi (fun (r : Int32) (_ : Unit) => r = R0) (fun _ => cB D tys A go) A) av.toArray s 1 6 A) (F0 m 0 ls [])) : CH l D tys y ws rm av gi R0 go := by
  intro sz
  refine MetFree.of_bodyS (code := cc) (maxLocals := maxL) (ret := ret) hy ?_ ?_
  · intro args s m h hn
    obtain ⟨m9, meth, c, hn9, h1, h2, h3, h4, -, h5, h6, -⟩ := Cond.codeWith_spec (atoms_spec (ws := ws) h _ (by rw [hw]; exact List.mem_cons_self))
    cases hn.symm.trans hn9
    exact ⟨meth, c, h1, h2, h3, h4, h5, h6⟩
  · intro p e s m args below meth c s₁ B hml hv _
    have hh0 : s₁.heap = s.heap := by rw [B.state]; rfl
    have htab : c.exceptionTable.toList = tableOf hh := vx_table (x := y) B (atoms_spec (ws := ws) B.pre _ (by rw [hw]; exact List.mem_cons_self))
    obtain ⟨rfl, hsz, hP, hK, hD0, hX⟩ := hv
    subst hsz
    have hl := lv_entry av (n := maxL) hlen
    have hbody := body p e s m below meth c (va_A (cat gi) s.heap.size) (lg_sl av ++ List.replicate (maxL - (lg_sl av).length) Slot.unset).toArray B.exec B.bytes B.returns (atoms_spec (ws := ws) B.pre) (findClass_of_methodNamed B.named) B.notSynchronized hml hK (fun q h => Or.inr h) hD0.self hP hl va_S.rf hX htab
    rw [← lg_entry_eq] at hbody
    obtain ⟨t, a1, o, b1, b2, b3⟩ := hbody s₁ hh0 (Stand.of_body B)
    exact ⟨t, o, a1, b1, b2, ⟨b3.1, b3.2⟩⟩
end HSTART

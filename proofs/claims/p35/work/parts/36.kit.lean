/-! ===== the law's helpers: calls that are caught ===== -/
abbrev CH (l : Launch) (D : va_G) (tys : List (ClassId × FieldType)) (y : MethodName) (ws : List Cond) (rm : Room) (av : List Value) (gi : List va_W) (R0 : Int32) (go : List va_W) : Prop :=
  ∀ sz : Nat, Met l y ws rm (xPre D tys av gi sz) (va_Qi (fun (r : Int32) (_ : Unit) => r = R0) (fun _ => cB D tys (va_A (cat gi) sz) go) (va_A (cat gi) sz)) 1 6 (va_A (cat gi) sz)
section HSTART
variable {l : Launch} {D : va_G} {tys : List (ClassId × FieldType)} {y : MethodName} {ws ws' : List Cond} {rm : Room} {av : List Value} {gi go : List va_W} {cc : ByteArray} {maxL : Nat} {ret : Option FieldType} {hh : List (Nat × Nat × Nat × Nat)} {R0 : Int32}
theorem wk_H (hy : plainName y.cls = true) (hw : ws = Cond.codeWith y cc maxL ret hh :: ws') (hlen : (lg_sl av).length ≤ maxL)
    (body : ∀ (p : Program) (e : Env) (s : State) (m : MethodId) (below : List Frame) (meth : Method) (c : Code) (A : Nat → Prop) (ls : Array Slot),
    p.tables.exec = Jvm.exec → c.code = cc → meth.sig.returnType = ret → (∀ w ∈ ws, w.before av.toArray s = true) → s.vm.findClass y.cls = some m.cls → meth.locks = false → c.maxLocals = maxL → va_K D vwCl tys s →
    (∀ q : Nat, s.heap.size ≤ q → A q) → va_D A (cat gi) → va_P D vwCl (cat gi) s.heap → lv_has ls maxL (lv_args 0 av) → va_S A s.heap s.heap [] → XS A s s.heap → c.exceptionTable.toList = tableOf hh →
    W p l e rm s m av.toArray below meth c s.heap [] 0 0 (MQ below (va_Qi (fun (r : Int32) (_ : Unit) => r = R0) (fun _ => cB D tys A go) A) av.toArray s 1 6 A) (F0 m 0 ls [])) : CH l D tys y ws rm av gi R0 go := by
  intro sz
  refine MetFree.of_bodyS (code := cc) (maxLocals := maxL) (ret := ret) hy ?_ ?_
  · intro args s m h hn
    obtain ⟨m9, meth, c, hn9, h1, h2, h3, h4, -, h5, h6, -⟩ := Cond.codeWith_spec (atoms_spec (ws := ws) h _ (by rw [hw]; exact List.mem_cons_self))
    cases hn.symm.trans hn9
    exact ⟨meth, c, h1, h2, h3, h4, h5, h6⟩
  · intro p e s m args below meth c s₁ B hml hv _
    have hh0 : s₁.heap = s.heap := by rw [B.state]; rfl
    have htab : c.exceptionTable.toList = tableOf hh := vx_table (x := y) B (atoms_spec (ws := ws) B.pre _ (by rw [hw]; exact List.mem_cons_self))
    obtain ⟨rfl, hsz, hP, hK, hD0, hX⟩ := hv
    subst hsz
    have hl := lv_entry av (n := maxL) hlen
    have hbody := body p e s m below meth c (va_A (cat gi) s.heap.size) (lg_sl av ++ List.replicate (maxL - (lg_sl av).length) Slot.unset).toArray B.exec B.bytes B.returns (atoms_spec (ws := ws) B.pre) (findClass_of_methodNamed B.named) B.notSynchronized hml hK (fun q h => Or.inr h) hD0.self hP hl va_S.rf hX htab
    rw [← lg_entry_eq] at hbody
    obtain ⟨t, a1, o, b1, b2, b3⟩ := hbody s₁ hh0 (Stand.of_body B)
    exact ⟨t, o, a1, b1, b2, ⟨b3.1, b3.2⟩⟩
end HSTART
section HCALL
variable {p : Program} {l : Launch} {e : Env} {R : Room} {s : State} {m : MethodId} {args : Array Value} {below : List Frame} {meth : Method} {c : Code} {H : Heap} {locs : List Loc} {cells slots : Nat} {Q : State → Prop}
variable {pc : Nat} {ls : Array Slot} {st0 rest As : List Value} {A0 : Nat → Prop} {D : va_G} {tys : List (ClassId × FieldType)} {y : MethodName} {ws Ts : List Cond} {rm : Room} {gs gi go : List va_W} {cc bytes : ByteArray} {maxL nL n index : Nat} {ret : Option FieldType} {own : String} {hh : List (Nat × Nat × Nat × Nat)}
theorem gHi {R0 : Int32} (fix : CallFix p m c cc nL s args Ts own) (hM : CH l D tys y ws rm As gi R0 go) (cw : vx_CSW R s args own index y bytes maxL ret hh ws rm 1 6 n)
    (hK : va_K D vwCl tys s) (hX : XS A0 s s.heap) (hP : va_P D vwCl (cat gs) H) (hD : va_D A0 (cat gs)) (hS : va_S A0 s.heap H locs) (hA : ∀ q, s.heap.size ≤ q → A0 q)
    (is : List Nat) (hi : is.map (fun i => gs[i]?) = gi.map some) (hn : va_nd is = true) (hlen : gi.length = go.length)
    (hAs : As.length = n) (hsize : ls.size = nL) (hst : st0 = As.reverse ++ rest) (hW : (rest.map fun v => v.category).sum ≤ 8) (hdg : decode cc pc = .ok (.invokestatic index, 3)) (hf : cells + 1 ≤ R.cells ∧ slots + 6 ≤ R.slots)
    (kk : ∀ (H1 : Heap) (locs1 : List Loc), va_P D vwCl (cat (sets gs is go)) H1 → va_D A0 (cat (sets gs is go)) → va_S A0 s.heap H1 locs1 → W p l e R s m args below meth c H1 locs1 (cells + 1) (slots + 6) Q (F0 m (pc + 3) ls (.int R0 :: rest))) :
    W p l e R s m args below meth c H locs cells slots Q (F0 m pc ls st0) := by
  have hPc := seg_P hP hn hi
  have hDc := seg_D hD hn hi
  have hFc := seg_F hD hS hA hn hi
  refine va_calli (vx_runSW (As := As) (rest := rest) fix (hM H.size) cw (gX_pre hPc hK hDc hX hS hFc) rfl hAs hsize hst (lv_room hW) hdg hf) hS (fun q _ h => hFc q h) hFc (fun r u t H1 locs1 ht hvm hw hB hz hk hS1 => ?_)
  obtain ⟨hP1, hK1, hD1⟩ := hB
  rw [ht] at hP1
  obtain ⟨hP2, hD2⟩ := seg_join hP hD hn hi hlen hk hFc hP1 hD1
  rw [hw]
  exact kk H1 locs1 hP2 hD2 hS1
end HCALL
/-! ===== contracts of the law's own methods: they make cells and forget them ===== -/
abbrev CA (l : Launch) (D : va_G) (tys : List (ClassId × FieldType)) (y : MethodName) (ws : List Cond) (rm : Room) (av : List Value) (gi : List va_W) (R0 : Int32) (go : List va_W) (mc ms : Nat) : Prop :=
  ∀ sz : Nat, Met l y ws rm (cPre D tys av gi sz) (va_Qi (fun (r : Int32) (_ : Unit) => r = R0) (fun _ => cB D tys (va_A (cat gi) sz) go) (va_A (cat gi) sz)) mc ms (va_A (cat gi) sz)
abbrev CG (U : Type) (l : Launch) (D : va_G) (tys : List (ClassId × FieldType)) (y : MethodName) (ws : List Cond) (rm : Room) (av : List Value) (gi : List va_W) (ok : U → Prop) (go : U → List va_W) (mc ms : Nat) : Prop :=
  ∀ sz : Nat, Met l y ws rm (xPre D tys av gi sz) (va_Qi (fun (r : Int32) (u : U) => r = 1 ∧ ok u) (fun u => cB D tys (va_A (cat gi) sz) (go u)) (va_A (cat gi) sz)) mc ms (va_A (cat gi) sz)
section ASTART
variable {l : Launch} {D : va_G} {tys : List (ClassId × FieldType)} {y : MethodName} {ws ws' : List Cond} {rm : Room} {av : List Value} {gi go : List va_W} {cc : ByteArray} {maxL mc ms : Nat} {ret : Option FieldType}
theorem wk_A {R0 : Int32} (hy : plainName y.cls = true) (hw : ws = Cond.code y cc maxL ret :: ws') (hlen : (lg_sl av).length ≤ maxL)
    (body : wkBody l D tys y ws rm av gi cc maxL ret (fun A => va_Qi (fun (r : Int32) (_ : Unit) => r = R0) (fun _ => cB D tys A go) A) mc ms) : CA l D tys y ws rm av gi R0 go mc ms := wk_of (Qa := fun A => va_Qi (fun (r : Int32) (_ : Unit) => r = R0) (fun _ => cB D tys A go) A) hy hw hlen body
theorem wk_G {U : Type} {ok : U → Prop} {gu : U → List va_W} (hy : plainName y.cls = true) (hw : ws = Cond.code y cc maxL ret :: ws') (hlen : (lg_sl av).length ≤ maxL)
    (body : ∀ (p : Program) (e : Env) (s : State) (m : MethodId) (below : List Frame) (meth : Method) (c : Code) (A : Nat → Prop) (ls : Array Slot),
    p.tables.exec = Jvm.exec → c.code = cc → meth.sig.returnType = ret → (∀ w ∈ ws, w.before av.toArray s = true) → s.vm.findClass y.cls = some m.cls → meth.locks = false → c.maxLocals = maxL → va_K D vwCl tys s →
    (∀ q : Nat, s.heap.size ≤ q → A q) → va_D A (cat gi) → va_P D vwCl (cat gi) s.heap → lv_has ls maxL (lv_args 0 av) → va_S A s.heap s.heap [] → XS A s s.heap →
    W p l e rm s m av.toArray below meth c s.heap [] 0 0 (MQ below (va_Qi (fun (r : Int32) (u : U) => r = 1 ∧ ok u) (fun u => cB D tys A (gu u)) A) av.toArray s mc ms A) (F0 m 0 ls [])) : CG U l D tys y ws rm av gi ok gu mc ms := by
  intro sz
  refine Met.ofW (cc := cc) (maxL := maxL) (ret := ret) hy hw ?_
  intro p e s m args below meth c s₁ B hml hv
  obtain ⟨rfl, hsz, hP, hK, hD0, hX⟩ := hv
  subst hsz
  have hl := lv_entry av (n := maxL) hlen
  rw [lg_entry_eq]
  generalize (lg_sl av ++ List.replicate (maxL - (lg_sl av).length) Slot.unset).toArray = ls at hl ⊢
  exact body p e s m below meth c (va_A (cat gi) s.heap.size) ls B.exec B.bytes B.returns (atoms_spec (ws := ws) B.pre) (findClass_of_methodNamed B.named) B.notSynchronized hml hK (fun q h => Or.inr h) hD0.self hP hl va_S.rf hX
end ASTART
section ACALL
variable {p : Program} {l : Launch} {e : Env} {R : Room} {s : State} {m : MethodId} {args : Array Value} {below : List Frame} {meth : Method} {c : Code} {H : Heap} {locs : List Loc} {cells slots : Nat} {Q : State → Prop}
variable {pc : Nat} {ls : Array Slot} {st0 rest As : List Value} {A0 : Nat → Prop} {D : va_G} {tys : List (ClassId × FieldType)} {y : MethodName} {ws Ts : List Cond} {rm : Room} {gs gi go : List va_W} {cc bytes : ByteArray} {maxL nL n index mc ms : Nat} {ret : Option FieldType} {own : String}
theorem gSa {R0 : Int32} (fix : CallFix p m c cc nL s args Ts own) (hM : CA l D tys y ws rm As gi R0 go mc ms) (cw : CallB R s args own index y bytes maxL ret ws rm mc ms n ∧ (Cond.static y).before args s = true)
    (hK : va_K D vwCl tys s) (hP : va_P D vwCl (cat gs) H) (hD : va_D A0 (cat gs)) (hS : va_S A0 s.heap H locs) (hA : ∀ q, s.heap.size ≤ q → A0 q)
    (is : List Nat) (hi : is.map (fun i => gs[i]?) = gi.map some) (hn : va_nd is = true) (hlen : gi.length = go.length)
    (hAs : As.length = n) (hsize : ls.size = nL) (hst : st0 = As.reverse ++ rest) (hW : (rest.map fun v => v.category).sum ≤ 8) (hdg : decode cc pc = .ok (.invokestatic index, 3)) (hf : cells + mc ≤ R.cells ∧ slots + ms ≤ R.slots)
    (kk : ∀ (H1 : Heap) (locs1 : List Loc), va_P D vwCl (cat (sets gs is go)) H1 → va_D A0 (cat (sets gs is go)) → va_S A0 s.heap H1 locs1 → W p l e R s m args below meth c H1 locs1 (cells + mc) (slots + ms) Q (F0 m (pc + 3) ls (.int R0 :: rest))) :
    W p l e R s m args below meth c H locs cells slots Q (F0 m pc ls st0) := by
  have hPc := seg_P hP hn hi
  have hDc := seg_D hD hn hi
  have hFc := seg_F hD hS hA hn hi
  refine va_calli (va_runS (As := As) (rest := rest) fix (hM H.size) cw (gV_pre hPc hK hDc) rfl hAs hsize hst (lv_room hW) hdg hf) hS (fun q _ h => hFc q h) hFc (fun r u t H1 locs1 ht hvm hw hB hz hk hS1 => ?_)
  obtain ⟨hP1, hK1, hD1⟩ := hB
  rw [ht] at hP1
  obtain ⟨hP2, hD2⟩ := seg_join hP hD hn hi hlen hk hFc hP1 hD1
  rw [hw]
  exact kk H1 locs1 hP2 hD2 hS1
theorem gSg {U : Type} {ok : U → Prop} {gu : U → List va_W} (fix : CallFix p m c cc nL s args Ts own) (hM : CG U l D tys y ws rm As gi ok gu mc ms) (cw : CallB R s args own index y bytes maxL ret ws rm mc ms n ∧ (Cond.static y).before args s = true)
    (hK : va_K D vwCl tys s) (hX : XS A0 s s.heap) (hP : va_P D vwCl (cat gs) H) (hD : va_D A0 (cat gs)) (hS : va_S A0 s.heap H locs) (hA : ∀ q, s.heap.size ≤ q → A0 q)
    (is : List Nat) (hi : is.map (fun i => gs[i]?) = gi.map some) (hn : va_nd is = true) (hlen : ∀ u, gi.length = (gu u).length)
    (hAs : As.length = n) (hsize : ls.size = nL) (hst : st0 = As.reverse ++ rest) (hW : (rest.map fun v => v.category).sum ≤ 8) (hdg : decode cc pc = .ok (.invokestatic index, 3)) (hf : cells + mc ≤ R.cells ∧ slots + ms ≤ R.slots)
    (kk : ∀ (u : U), ok u → ∀ (H1 : Heap) (locs1 : List Loc), va_P D vwCl (cat (sets gs is (gu u))) H1 → va_D A0 (cat (sets gs is (gu u))) → va_S A0 s.heap H1 locs1 → W p l e R s m args below meth c H1 locs1 (cells + mc) (slots + ms) Q (F0 m (pc + 3) ls (.int 1 :: rest))) :
    W p l e R s m args below meth c H locs cells slots Q (F0 m pc ls st0) := by
  have hPc := seg_P hP hn hi
  have hDc := seg_D hD hn hi
  have hFc := seg_F hD hS hA hn hi
  refine va_calli (va_runS (As := As) (rest := rest) fix (hM H.size) cw (gX_pre hPc hK hDc hX hS hFc) rfl hAs hsize hst (lv_room hW) hdg hf) hS (fun q _ h => hFc q h) hFc (fun r u t H1 locs1 ht hvm hw hB hz hk hS1 => ?_)
  obtain ⟨hP1, hK1, hD1⟩ := hB
  rw [ht] at hP1
  obtain ⟨hP2, hD2⟩ := seg_join hP hD hn hi (hlen u) hk hFc hP1 hD1
  rw [hw.1]
  exact kk u hw.2 H1 locs1 hP2 hD2 hS1
theorem end_g {U : Type} {ok : U → Prop} {gu : U → List va_W} (u : U) (hx : p.tables.exec = Jvm.exec) (hb : c.code = cc) (hr : meth.sig.returnType = some .boolean) (hlocks : meth.locks = false) (hK : va_K D vwCl tys s) (hP : va_P D vwCl (cat (gu u)) H) (hD : va_D A0 (cat (gu u))) (hS : va_S A0 s.heap H locs) (hok : ok u) (hdg : decode cc pc = .ok (.ireturn, 1)) :
    W p l e R s m args below meth c H locs cells slots (MQ below (va_Qi (fun (r : Int32) (u : U) => r = 1 ∧ ok u) (fun u => cB D tys A0 (gu u)) A0) args s cells slots A0) (F0 m pc ls [.int 1]) :=
  W.zret (v := 1) hx hb hr rfl (fun t ht hW => ⟨⟨1, u, rfl, ⟨rfl, hok⟩, by rw [ht]; exact hP, va_K.moved hW.alike hK, hD⟩, hS.F ht⟩) hS.2.2 hdg hlocks
/-- two ways that meet -/
theorem W_join {pc2 : Nat} {v : Value} {l2 : Array Slot} {g : JFrame} (a : W p l e R s m args below meth c H locs cells slots Q (F0 m pc2 l2 (v :: rest))) (b : W p l e R s m args below meth c H locs cells slots Q (F0 m pc2 l2 (v :: rest)) → W p l e R s m args below meth c H locs cells slots Q g) : W p l e R s m args below meth c H locs cells slots Q g := b a
theorem W_loop2 {α : Type} {I : α → Heap → List Loc → Array Slot → Prop} {μ : α → Nat} {st : α → List Value} {cf sf : α → Nat}
    (body : ∀ a : α, (∀ b : α, μ b < μ a → ∀ H locs ls, I b H locs ls → W p l e R s m args below meth c H locs (cf b) (sf b) Q (F0 m pc ls (st b))) → ∀ H locs ls, I a H locs ls → W p l e R s m args below meth c H locs (cf a) (sf a) Q (F0 m pc ls (st a))) :
    ∀ (a : α) (H : Heap) (locs : List Loc) (ls : Array Slot), I a H locs ls → W p l e R s m args below meth c H locs (cf a) (sf a) Q (F0 m pc ls (st a)) := by
  have key : ∀ (n : Nat) (a : α), μ a < n → ∀ H locs ls, I a H locs ls → W p l e R s m args below meth c H locs (cf a) (sf a) Q (F0 m pc ls (st a)) := by
    intro n
    induction n with
    | zero => intro a h; exact absurd h (Nat.not_lt_zero _)
    | succ n ih => intro a h; exact body a (fun b hb => ih b (by omega))
  exact fun a => key (μ a + 1) a (Nat.lt_succ_self _)
end ACALL
def dn (j : Nat) : Int32 := nI j + (-1)
theorem dn_s (j : Nat) : dn (j + 1) = nI j := pk_m1 j
theorem dn_neg {j : Nat} (h : dn j < 0) : j = 0 ∨ 2147483648 ≤ j := by
  cases j with
  | zero => exact Or.inl rfl
  | succ j =>
    rw [dn_s] at h
    by_cases c : j < 2147483647
    · exact absurd h (nI_pos (by omega))
    · omega
theorem dn_0 : dn 0 < 0 := by decide +kernel
theorem dn_lt {i : Nat} (hi : i ≤ 6) (h : ¬ dn (6 - i) < 0) : i < 6 ∧ dn (6 - i) = nI (5 - i) := by
  have h1 : i ≠ 6 := fun e => by subst e; exact h dn_0
  refine ⟨by omega, ?_⟩
  rw [show 6 - i = (5 - i) + 1 by omega]
  exact dn_s _
theorem dn_end {i : Nat} (hi : i ≤ 6) (h : dn (6 - i) < 0) : 6 = i := by
  rcases dn_neg h with h9 | h9 <;> omega
theorem dn_next {i : Nat} (hi : i < 6) : nI (5 - i) + (-1) = dn (6 - (i + 1)) := by
  rw [show 6 - (i + 1) = 5 - i by omega]; rfl
def lowN (v : Int32) (k : Nat) : Nat := v.toBitVec.toNat % 2 ^ 31 % k
theorem low_m : (2147483647 : Int32).toBitVec.toNat = 2 ^ 31 - 1 := by decide +kernel
theorem lowN_lt (v : Int32) {k : Nat} (h : 0 < k) : lowN v k < k := Nat.mod_lt _ h

/-! ===== what throws: the premises of a throw, contracts of methods that throw ===== -/
abbrev xIA : String := "java/lang/IllegalArgumentException"
abbrev xIS : String := "java/lang/IllegalStateException"
abbrev xIO : String := "java/lang/IndexOutOfBoundsException"
def xStr : List (Nat × String) := [(120, "there is a handover, or nobody is at work"), (128, "there is no handover"), (207, "no state is saved"), (233, "there is no such doorstep"), (236, "there is no such milkman"), (238, "pints are 1 to 9"), (50, "there is a handover, or there are 20 doorsteps"), (70, "there is a handover"), (85, "there is a handover, or he is at work"), (93, "there is a handover, or he is not at work")]
def xDe : List MethodName := [Bundle.initS "java/lang/RuntimeException", Bundle.initS "java/lang/Exception", Bundle.initS Bundle.tN]
def xT (U : State) : Prop := (∀ x ∈ xDe, va_Nw (.declares x) U) ∧ (∀ E ∈ [xIA, xIS, xIO], va_Nw (.castable E E) U) ∧ (∀ q ∈ xStr, ∃ sa, vk_R RX5 q.1 q.2 sa U) ∧ (∀ q ∈ [(xIS, xIA), (xIS, xIO), (xIA, xIO)], va_Nc q.1 q.2 U)
theorem xT.warm {s U : State} (hW : s.WarmedH U.vm) (h : xT s) : xT U :=
  ⟨fun x hx => (h.1 x hx).warmD hW, fun E hE => (h.2.1 E hE).warmC hW, fun q hq => by obtain ⟨sa, h1⟩ := h.2.2.1 q hq; exact ⟨sa, h1.warm hW⟩, fun q hq => (h.2.2.2 q hq).moved hW.alike⟩
theorem xT.blind {U : State} (g : JFrame) (mk : MethodId) (a : Array Value) (h : xT U) : xT (U.calling g mk a) :=
  ⟨fun x hx => va_Nw.same rfl (u := U) (U := U.calling g mk a) rfl (h.1 x hx), fun E hE => va_Nw.same rfl (u := U) (U := U.calling g mk a) rfl (h.2.1 E hE), fun q hq => by obtain ⟨sa, h1⟩ := h.2.2.1 q hq; exact ⟨sa, vk_R.same (u := U) (U := U.calling g mk a) rfl h1⟩, fun q hq => (h.2.2.2 q hq).moved (u := U) (U := U.calling g mk a) (Vm.Alike.refl U.vm)⟩
def XS (A : Nat → Prop) (U : State) (H : Heap) : Prop := vx_Zq Bundle.tN "UNASSIGNED_STACK" Bundle.steD A U H ∧ vx_Zq Bundle.tN "SUPPRESSED_SENTINEL" Bundle.listD A U H ∧ xT U
theorem XS.blind {A : Nat → Prop} {U : State} (g : JFrame) (mk : MethodId) (a : Array Value) (h : XS A U U.heap) : XS A (U.calling g mk a) (U.calling g mk a).heap :=
  ⟨vx_Zq.moved (u := U) (U := U.calling g mk a) (Vm.Alike.refl U.vm) h.1, vx_Zq.moved (u := U) (U := U.calling g mk a) (Vm.Alike.refl U.vm) h.2.1, h.2.2.blind g mk a⟩
theorem XS.into {A B : Nat → Prop} {s U : State} {H : Heap} {locs : List Loc} (h : XS A s s.heap) (hS : va_S A s.heap H locs) (hAB : ∀ q, B q → A q) (hW : s.WarmedH U.vm) (hU : U.heap = H) : XS B U U.heap := by
  rw [hU]
  exact ⟨((h.1.kept hS.2.1).moved hW.alike).narrow hAB, ((h.2.1.kept hS.2.1).moved hW.alike).narrow hAB, h.2.2.warm hW⟩
def xPre (D : va_G) (tys : List (ClassId × FieldType)) (av : List Value) (gi : List va_W) (sz : Nat) : Array Value → State → Prop :=
  va_Pc av (fun U => U.heap.size = sz ∧ va_P D vwCl (cat gi) U.heap ∧ va_K D vwCl tys U ∧ va_D (fun _ => True) (cat gi) ∧ XS (va_A (cat gi) sz) U U.heap)
theorem xPre_blind {D : va_G} {tys : List (ClassId × FieldType)} {av : List Value} {gi : List va_W} {sz : Nat} : FrameBlind (xPre D tys av gi sz) :=
  fun a U g mk q => by obtain ⟨q0, q1, qP, qK, qD, qX⟩ := q; exact ⟨q0, q1, qP, va_K.moved (u := U) (U := U.calling g mk a) (Vm.Alike.refl U.vm) qK, qD, qX.blind g mk a⟩
def xQ : Array Value → State → Outcome → State → Prop := fun _ _ _ _ => False
def xB (D : va_G) (tys : List (ClassId × FieldType)) (A : Nat → Prop) (gi : List va_W) (E : String) : String → State → State → Prop := vx_X (fun _ : Unit => True) (fun E1 _ t => E1 = E ∧ cB D tys A gi t) A
/-- the method throws E, and its world is as it was -/
abbrev CX (l : Launch) (D : va_G) (tys : List (ClassId × FieldType)) (y : MethodName) (ws : List Cond) (rm : Room) (av : List Value) (gi : List va_W) (E : String) : Prop :=
  ∀ sz : Nat, vx_Met l y ws rm (xPre D tys av gi sz) xQ (xB D tys (va_A (cat gi) sz) gi E) 1 6 (va_A (cat gi) sz)
section START
variable {l : Launch} {D : va_G} {tys : List (ClassId × FieldType)} {y : MethodName} {ws ws' : List Cond} {rm : Room} {av : List Value} {gi : List va_W} {cc : ByteArray} {maxL : Nat} {ret : Option FieldType} {E : String}
theorem wk_X (hy : plainName y.cls = true) (hw : ws = Cond.code y cc maxL ret :: ws') (hlen : (lg_sl av).length ≤ maxL)
    (body : ∀ (p : Program) (e : Env) (s : State) (m : MethodId) (below : List Frame) (meth : Method) (c : Code) (A : Nat → Prop) (ls : Array Slot),
    p.tables.exec = Jvm.exec → c.code = cc → (∀ w ∈ ws, w.before av.toArray s = true) → s.vm.findClass y.cls = some m.cls → meth.locks = false → c.maxLocals = maxL → va_K D vwCl tys s →
    (∀ q : Nat, s.heap.size ≤ q → A q) → va_D A (cat gi) → va_P D vwCl (cat gi) s.heap → lv_has ls maxL (lv_args 0 av) → va_S A s.heap s.heap [] → XS A s s.heap → (∀ x ∈ c.exceptionTable.toList, False) →
    W p l e rm s m av.toArray below meth c s.heap [] 0 0 (vx_MQ below xQ (xB D tys A gi E) av.toArray s 1 6 A) (F0 m 0 ls [])) : CX l D tys y ws rm av gi E := by
  intro sz
  refine vx_ofW (cc := cc) (maxL := maxL) (ret := ret) hy hw ?_
  intro p e s m args below meth c s₁ B hml ht hv
  obtain ⟨rfl, hsz, hP, hK, hD0, hX⟩ := hv
  subst hsz
  have hl := lv_entry av (n := maxL) hlen
  rw [lg_entry_eq]
  generalize (lg_sl av ++ List.replicate (maxL - (lg_sl av).length) Slot.unset).toArray = ls at hl ⊢
  exact body p e s m below meth c (va_A (cat gi) s.heap.size) ls B.exec B.bytes (atoms_spec (ws := ws) B.pre) (findClass_of_methodNamed B.named) B.notSynchronized hml hK (fun q h => Or.inr h) hD0.self hP hl va_S.rf hX ht
end START
section CALLX
variable {p : Program} {l : Launch} {e : Env} {R : Room} {s : State} {m : MethodId} {args : Array Value} {below : List Frame} {meth : Method} {c : Code} {H : Heap} {locs : List Loc} {cells slots : Nat} {Q : State → Prop}
variable {pc : Nat} {ls : Array Slot} {st0 rest As fs : List Value} {A0 A1 free : Nat → Prop} {H0 : Heap} {a : Array Value} {D : va_G} {tys : List (ClassId × FieldType)} {y : MethodName} {ws Ts : List Cond} {rm : Room} {gs gi go : List va_W} {cc bytes : ByteArray} {maxL nL n index mc ms : Nat} {ret : Option FieldType} {own C E : String} {b : Addr} {T : u_T} {N : Nat}
theorem vx_call0 {SX : Type} {px : SX → Prop} {BX : String → SX → State → Prop} {AX : Nat → Prop} (hr : vx_Run p l e R s m args below meth c H locs cells slots mc ms (F0 m pc ls st0) rest (fun _ _ _ => False) (vx_X px BX AX) free) (hS : va_S A0 H0 H locs) (hf : ∀ q, free q → A0 q) (hAX : ∀ q, q < H.size → AX q → A0 q)
    (kx : ∀ (E : String) (ce : Cell) (q9 : Addr) (u : SX) (t : State) (H1 : Heap) (locs1 : List Loc), t.heap = H1 → s.vm.Alike t.vm → px u → BX E u t → H.size ≤ H1.size → (∀ q : Nat, q < H.size → ¬ AX q → H1[q]? = H[q]?) → va_S A0 H0 H1 locs1 → H1[q9]? = some ce → ce.vm = .none → s.vm.findClass E = some ce.cls → vx_W p l e R s m args below meth c H1 locs1 (cells + mc) (slots + ms) Q (F0 m pc ls rest) q9) :
    W p l e R s m args below meth c H locs cells slots Q (F0 m pc ls st0) := by
  intro T hT X
  rcases hr T hT X with ⟨v, st₀, t, T', L, h0, X', hL, e1, e2, h9, st⟩ | ⟨q, st₀, t, T', L, E, ce, h0, X', hL, e1, e2, ⟨u, hp, hb, hF⟩, hce, hcv, hcl, st⟩
  · exact h9.elim
  · obtain ⟨k1, k2, k3⟩ := vx_keep h0 e1 hS hAX hf hL hF
    obtain ⟨t2, a1, b1⟩ := kx E ce q u t T'.heap (locs ++ L) e1.symm (by rw [← e2]; exact X'.warmed.alike) hp hb k1 k2 k3 (by rw [e1]; exact hce) hcv hcl T' rfl X'
    exact ⟨t2, st.trans a1, b1⟩
theorem gX_pre {av : List Value} (hP : va_P D vwCl (cat gi) H) (hK : va_K D vwCl tys s) (hD : va_D A0 (cat gi)) (hX : XS A0 s s.heap) (hS : va_S A0 s.heap H locs) (hF : ∀ q, va_A (cat gi) H.size q → A0 q) : PreS s H (xPre D tys av gi H.size) av :=
  ⟨xPre_blind, fun U hU hW => ⟨rfl, by rw [hU], by rw [hU]; exact hP, va_K.moved hW.alike hK, hD.weaken (fun _ _ _ _ => trivial), hX.into hS hF hW hU⟩⟩
/-- a virtual call that throws -/
theorem gXV (fix : CallFix p m c cc nL s args Ts own) (hM : CX l D tys y ws rm (.ref b :: As) gi E) (cw : CallW R s args own C index y bytes maxL ret ws rm 1 6 n)
    (hK : va_K D vwCl tys s) (hX : XS A0 s s.heap) (hP : va_P D vwCl (cat gs) H) (hD : va_D A0 (cat gs)) (hS : va_S A0 s.heap H locs) (hA : ∀ q, s.heap.size ≤ q → A0 q)
    (is : List Nat) (hi : is.map (fun i => gs[i]?) = gi.map some) (hn : va_nd is = true) (q0 ci : Nat) (hc : vwCl[ci]? = some (C, T, N)) (he : (cat gi)[q0]? = some (b, .inr (ci, fs)))
    (hAs : As.length = n) (hsize : ls.size = nL) (hst : st0 = As.reverse ++ .ref b :: rest) (hW : (rest.map fun v => v.category).sum ≤ 8) (hdg : decode cc pc = .ok (.invokevirtual index, 3)) (hf : cells + 1 ≤ R.cells ∧ slots + 6 ≤ R.slots)
    (kx : ∀ (ce : Cell) (q9 : Addr) (H1 : Heap) (locs1 : List Loc), va_P D vwCl (cat gs) H1 → va_D A0 (cat gs) → va_S A0 s.heap H1 locs1 → H1[q9]? = some ce → ce.vm = .none → s.vm.findClass E = some ce.cls → vx_W p l e R s m args below meth c H1 locs1 (cells + 1) (slots + 6) Q (F0 m pc ls rest) q9) :
    W p l e R s m args below meth c H locs cells slots Q (F0 m pc ls st0) := by
  have hPc := seg_P hP hn hi
  have hDc := seg_D hD hn hi
  have hFc := seg_F hD hS hA hn hi
  refine vx_call0 (vx_runV (As := As) (rest := rest) fix (hM H.size) cw ⟨xPre_blind, va_recv hK hPc hc he, (gX_pre hPc hK hDc hX hS hFc).2⟩ rfl hAs hsize hst (lv_room hW) hdg hf) hS hFc (fun q _ h => hFc q h) (fun E1 ce q9 u t H1 locs1 ht hvm hw hB hz hk hS1 hce hcv hcl => ?_)
  obtain ⟨rfl, hP1, hK1, hD1⟩ := hB
  rw [ht] at hP1
  obtain ⟨hP2, hD2⟩ := seg_join hP hD hn hi rfl hk hFc hP1 hD1
  rw [sets_self is gs gi hn hi] at hP2 hD2
  exact kx ce q9 H1 locs1 hP2 hD2 hS1 hce hcv hcl
/-- a static call that throws -/
theorem gXS (fix : CallFix p m c cc nL s args Ts own) (hM : CX l D tys y ws rm As gi E) (cw : CallB R s args own index y bytes maxL ret ws rm 1 6 n ∧ (Cond.static y).before args s = true)
    (hK : va_K D vwCl tys s) (hX : XS A0 s s.heap) (hP : va_P D vwCl (cat gs) H) (hD : va_D A0 (cat gs)) (hS : va_S A0 s.heap H locs) (hA : ∀ q, s.heap.size ≤ q → A0 q)
    (is : List Nat) (hi : is.map (fun i => gs[i]?) = gi.map some) (hn : va_nd is = true)
    (hAs : As.length = n) (hsize : ls.size = nL) (hst : st0 = As.reverse ++ rest) (hW : (rest.map fun v => v.category).sum ≤ 8) (hdg : decode cc pc = .ok (.invokestatic index, 3)) (hf : cells + 1 ≤ R.cells ∧ slots + 6 ≤ R.slots)
    (kx : ∀ (ce : Cell) (q9 : Addr) (H1 : Heap) (locs1 : List Loc), va_P D vwCl (cat gs) H1 → va_D A0 (cat gs) → va_S A0 s.heap H1 locs1 → H1[q9]? = some ce → ce.vm = .none → s.vm.findClass E = some ce.cls → vx_W p l e R s m args below meth c H1 locs1 (cells + 1) (slots + 6) Q (F0 m pc ls rest) q9) :
    W p l e R s m args below meth c H locs cells slots Q (F0 m pc ls st0) := by
  have hPc := seg_P hP hn hi
  have hDc := seg_D hD hn hi
  have hFc := seg_F hD hS hA hn hi
  refine vx_call0 (vx_runS (As := As) (rest := rest) fix (hM H.size) cw (gX_pre hPc hK hDc hX hS hFc) rfl hAs hsize hst (lv_room hW) hdg hf) hS hFc (fun q _ h => hFc q h) (fun E1 ce q9 u t H1 locs1 ht hvm hw hB hz hk hS1 hce hcv hcl => ?_)
  obtain ⟨rfl, hP1, hK1, hD1⟩ := hB
  rw [ht] at hP1
  obtain ⟨hP2, hD2⟩ := seg_join hP hD hn hi rfl hk hFc hP1 hD1
  rw [sets_self is gs gi hn hi] at hP2 hD2
  exact kx ce q9 H1 locs1 hP2 hD2 hS1 hce hcv hcl
/-- what was thrown goes on to the caller -/
theorem gX_out {ce : Cell} {q9 : Addr} (ht : ∀ x ∈ c.exceptionTable.toList, False) (hlocks : meth.locks = false) (hK : va_K D vwCl tys s) (hP : va_P D vwCl (cat gi) H) (hD : va_D A0 (cat gi)) (hS : va_S A0 s.heap H locs) (hce : H[q9]? = some ce) (hcv : ce.vm = .none) (hcl : s.vm.findClass E = some ce.cls) :
    vx_W p l e R s m args below meth c H locs (0 + 1) (0 + 6) (vx_MQ below xQ (xB D tys A0 gi E) args s 1 6 A0) (F0 m pc ls rest) q9 :=
  vx_out (E := E) (fun x hx => (ht x hx).elim) hlocks hce hcv hcl (fun t ht hA9 => ⟨(), trivial, ⟨rfl, by rw [ht]; exact hP, va_K.moved hA9 hK, hD⟩, (hS.F ht)⟩) (fun z hz => hS.2.2 z hz) (Nat.le_refl _) (Nat.le_refl _)
end CALLX
section THROW
variable {p : Program} {l : Launch} {e : Env} {R : Room} {s : State} {m : MethodId} {args : Array Value} {below : List Frame} {meth : Method} {c : Code} {H : Heap} {locs : List Loc}
variable {pc : Nat} {ls : Array Slot} {rest : List Value} {A0 : Nat → Prop} {D : va_G} {tys : List (ClassId × FieldType)} {gi : List va_W} {cc : ByteArray} {nL ik is ic : Nat} {E text : String}
theorem gThrow (hexec : p.tables.exec = Jvm.exec) (hb : c.code = cc) (htr : l.stackTraces = false) (hown : s.vm.findClass RX5 = some m.cls) (hE : E ∈ [xIA, xIS, xIO]) (hcls : Bundle.fit E = true) (hstr : (is, text) ∈ xStr)
    (hk : (Cond.classLink RX5 ik E).before args s = true) (hini : (Cond.initialized E).before args s = true) (h1 : ∀ w ∈ (vx_atS RX5 ic E ["java/lang/RuntimeException", "java/lang/Exception"]).filter goodWord, w.before args s = true)
    (h2 : ∀ w ∈ (vx_atS RX5 ic E ["java/lang/RuntimeException", "java/lang/Exception"]).filter (fun w => !goodWord w), w ∈ Cond.castable E E :: xDe.map Cond.declares)
    (hgood : ∀ w ∈ Cond.classLink RX5 ik E :: Cond.initialized E :: vx_atS RX5 ic E ["java/lang/RuntimeException", "java/lang/Exception"], vx_ot w = true)
    (hX : XS A0 s s.heap) (hK : va_K D vwCl tys s) (hP : va_P D vwCl (cat gi) H) (hD : va_D A0 (cat gi)) (hS : va_S A0 s.heap H locs) (hsize : ls.size = nL) (hml : c.maxLocals = nL)
    (d0 : decode cc pc = .ok (.new ik, 3)) (d3 : decode cc (pc + 3) = .ok (.dup, 1)) (d4 : decode cc (pc + 4) = .ok (.ldc is, 2)) (d6 : decode cc (pc + 6) = .ok (.invokespecial ic, 3)) (d9 : decode cc (pc + 9) = .ok (.athrow, 1))
    (ht : ∀ x ∈ c.exceptionTable.toList, False) (hlocks : meth.locks = false) (hW : (rest.map fun v => v.category).sum = 0) (hR : 5 < R.frames ∧ 82 ≤ R.locals ∧ 1 ≤ R.cells ∧ 6 ≤ R.slots) :
    W p l e R s m args below meth c H locs 0 0 (vx_MQ below xQ (xB D tys A0 gi E) args s 1 6 A0) (F0 m pc ls rest) := by
  obtain ⟨sa, hsa⟩ := hX.2.2.2.2.1 _ hstr
  refine vx_throwS hexec hb htr (own := RX5) (cls := E) (text := text) (names := ["java/lang/RuntimeException", "java/lang/Exception"]) (ik := ik) (is := is) (ic := ic) (sa := sa) (A := A0) hown hcls (by decide +kernel) hk hini hsa
    (vx_hat h1 h2 (vx_c (va_Nw.use rfl (hX.2.2.2.1 E hE)) fun w hw => by obtain ⟨x, hx9, rfl⟩ := List.mem_map.mp hw; exact va_Nw.use rfl (hX.2.2.1 x hx9))) hgood hX.1 hX.2.1 hS (hsize.trans hml.symm) d0 d3 d4 d6 d9 (fun x hx => (ht x hx).elim) hR.1 (by rw [hW]; show 0 + (13 * (2 + 1) + 43) ≤ _; omega) (by omega) (by omega) hlocks ?_ hS.2.2 (Nat.le_refl _) (Nat.le_refl _)
  intro t hA9 hz hq
  refine ⟨(), trivial, ⟨rfl, P_iff.mpr fun q hm => ?_, va_K.moved hA9 hK, hD⟩, Nat.le_trans hS.1 hz, fun q h3 h4 => ?_⟩
  · have h9 := P_iff.mp hP q hm
    exact h9.kept (hq q.1 h9.lt)
  · rw [hq q (Nat.lt_of_lt_of_le h3 hS.1)]
    exact hS.2.1 q h3 h4
end THROW
theorem xb_IS : ∀ w ∈ (vx_atS RX5 52 xIS ["java/lang/RuntimeException", "java/lang/Exception"]).filter (fun w => !goodWord w), w ∈ Cond.castable xIS xIS :: xDe.map Cond.declares := by decide +kernel
theorem xb_IA : ∀ w ∈ (vx_atS RX5 174 xIA ["java/lang/RuntimeException", "java/lang/Exception"]).filter (fun w => !goodWord w), w ∈ Cond.castable xIA xIA :: xDe.map Cond.declares := by decide +kernel
theorem xb_IO : ∀ w ∈ (vx_atS RX5 235 xIO ["java/lang/RuntimeException", "java/lang/Exception"]).filter (fun w => !goodWord w), w ∈ Cond.castable xIO xIO :: xDe.map Cond.declares := by decide +kernel
theorem xo_IS : ∀ w ∈ Cond.classLink RX5 48 xIS :: Cond.initialized xIS :: vx_atS RX5 52 xIS ["java/lang/RuntimeException", "java/lang/Exception"], vx_ot w = true := by decide +kernel
theorem xo_IA : ∀ w ∈ Cond.classLink RX5 170 xIA :: Cond.initialized xIA :: vx_atS RX5 174 xIA ["java/lang/RuntimeException", "java/lang/Exception"], vx_ot w = true := by decide +kernel
theorem xo_IO : ∀ w ∈ Cond.classLink RX5 231 xIO :: Cond.initialized xIO :: vx_atS RX5 235 xIO ["java/lang/RuntimeException", "java/lang/Exception"], vx_ot w = true := by decide +kernel

/-! ===== constructors ===== -/
def exE (nest : List (String × Nat × MethodName × String)) (ao : Bool) (U : State) : Prop := (∀ q ∈ nest, va_Nw (.methodLinkNest q.1 q.2.1 q.2.2.1 q.2.2.2) U) ∧ (ao = true → va_AO RX1 U)
theorem exE.blind {nest : List (String × Nat × MethodName × String)} {ao : Bool} {U : State} (g : JFrame) (mk : MethodId) (a : Array Value) (h : exE nest ao U) : exE nest ao (U.calling g mk a) :=
  ⟨fun q hq => va_Nw.same rfl (u := U) (U := U.calling g mk a) rfl (h.1 q hq), fun ha => va_AO.moved (u := U) (U := U.calling g mk a) (Vm.Alike.refl U.vm) (h.2 ha)⟩
theorem exE.warm {nest : List (String × Nat × MethodName × String)} {ao : Bool} {s U : State} (hW : s.WarmedH U.vm) (h : exE nest ao s) : exE nest ao U :=
  ⟨fun q hq => (h.1 q hq).warmM hW, fun ha => (h.2 ha).moved hW.alike⟩
theorem exE.sub {n1 n2 : List (String × Nat × MethodName × String)} {a1 a2 : Bool} {s : State} (h : exE n1 a1 s) (hn : ∀ q ∈ n2, q ∈ n1) (ha : a2 = true → a1 = true) : exE n2 a2 s := ⟨fun q hq => h.1 q (hn q hq), fun h2 => h.2 (ha h2)⟩
def cPreX (D : va_G) (tys : List (ClassId × FieldType)) (nest : List (String × Nat × MethodName × String)) (ao : Bool) (av : List Value) (gi : List va_W) (sz : Nat) : Array Value → State → Prop :=
  va_Pc av (fun U => U.heap.size = sz ∧ va_P D vwCl (cat gi) U.heap ∧ va_K D vwCl tys U ∧ va_D (fun _ => True) (cat gi) ∧ exE nest ao U)
theorem cPreX_blind {D : va_G} {tys : List (ClassId × FieldType)} {nest : List (String × Nat × MethodName × String)} {ao : Bool} {av : List Value} {gi : List va_W} {sz : Nat} : FrameBlind (cPreX D tys nest ao av gi sz) :=
  fun a U g mk q => by obtain ⟨q0, q1, qP, qK, qD, qE⟩ := q; exact ⟨q0, q1, qP, va_K.moved (u := U) (U := U.calling g mk a) (Vm.Alike.refl U.vm) qK, qD, qE.blind g mk a⟩
abbrev CN (l : Launch) (D : va_G) (tys : List (ClassId × FieldType)) (y : MethodName) (ws : List Cond) (rm : Room) (nest : List (String × Nat × MethodName × String)) (ao : Bool) (av : List Value) (gi : List va_W) (mc ms h0 : Nat) (go : (Nat → Nat) → List va_W) : Prop :=
  ∀ sz : Nat, Met l y ws rm (cPreX D tys nest ao av gi sz) (va_Qv (fun (A : Nat → Nat) => A 0 = h0) (fun A => cB D tys (va_A (cat gi) sz) (go A)) (va_A (cat gi) sz)) mc ms (va_A (cat gi) sz)
section CTOR
variable {l : Launch} {D : va_G} {tys : List (ClassId × FieldType)} {y : MethodName} {ws ws' : List Cond} {rm : Room} {nest : List (String × Nat × MethodName × String)} {ao : Bool} {av : List Value} {gi : List va_W} {go : (Nat → Nat) → List va_W} {cc : ByteArray} {maxL mc ms h0 : Nat} {ret : Option FieldType}
theorem wk_N (hy : plainName y.cls = true) (hw : ws = Cond.code y cc maxL ret :: ws') (hlen : (lg_sl av).length ≤ maxL)
    (body : ∀ (p : Program) (e : Env) (s : State) (m : MethodId) (below : List Frame) (meth : Method) (c : Code) (A : Nat → Prop) (ls : Array Slot),
    p.tables.exec = Jvm.exec → c.code = cc → meth.sig.returnType = ret → (∀ w ∈ ws, w.before av.toArray s = true) → s.vm.findClass y.cls = some m.cls → meth.locks = false → c.maxLocals = maxL → va_K D vwCl tys s →
    (∀ q : Nat, s.heap.size ≤ q → A q) → va_D A (cat gi) → va_P D vwCl (cat gi) s.heap → lv_has ls maxL (lv_args 0 av) → va_S A s.heap s.heap [] → (meth.name = y.name) → exE nest ao s →
    W p l e rm s m av.toArray below meth c s.heap [] 0 0 (MQ below (va_Qv (fun (A : Nat → Nat) => A 0 = h0) (fun B => cB D tys A (go B)) A) av.toArray s mc ms A) (F0 m 0 ls [])) : CN l D tys y ws rm nest ao av gi mc ms h0 go := by
  intro sz
  refine Met.ofW (cc := cc) (maxL := maxL) (ret := ret) hy hw ?_
  intro p e s m args below meth c s₁ B hml hv
  obtain ⟨rfl, hsz, hP, hK, hD0, hE⟩ := hv
  subst hsz
  have hl := lv_entry av (n := maxL) hlen
  rw [lg_entry_eq]
  generalize (lg_sl av ++ List.replicate (maxL - (lg_sl av).length) Slot.unset).toArray = ls at hl ⊢
  exact body p e s m below meth c (va_A (cat gi) s.heap.size) ls B.exec B.bytes B.returns (atoms_spec (ws := ws) B.pre) (findClass_of_methodNamed B.named) B.notSynchronized hml hK (fun q h => Or.inr h) hD0.self hP hl va_S.rf (name_of_methodNamed B.named B.method).1 hE
end CTOR
section CTOR2
variable {p : Program} {l : Launch} {e : Env} {R : Room} {s : State} {m : MethodId} {args : Array Value} {below : List Frame} {meth : Method} {c : Code} {H : Heap} {locs : List Loc} {cells slots : Nat} {Q : State → Prop}
variable {pc : Nat} {ls : Array Slot} {st0 rest As fs : List Value} {A0 : Nat → Prop} {D : va_G} {tys : List (ClassId × FieldType)} {y : MethodName} {ws Ts : List Cond} {rm : Room} {nest : List (String × Nat × MethodName × String)} {ao : Bool} {gs gi : List va_W} {go : (Nat → Nat) → List va_W} {cc bytes : ByteArray} {maxL nL n index mc ms h0 : Nat} {ret : Option FieldType} {own C host : String} {b : Addr} {T : u_T} {N : Nat}
theorem gN_pre {av : List Value} (hP : va_P D vwCl (cat gi) H) (hK : va_K D vwCl tys s) (hD : va_D A0 (cat gi)) (hE : exE nest ao s) : PreS s H (cPreX D tys nest ao av gi H.size) av :=
  ⟨cPreX_blind, fun U hU hW => ⟨rfl, by rw [hU], by rw [hU]; exact hP, va_K.moved hW.alike hK, hD.weaken (fun _ _ _ _ => trivial), hE.warm hW⟩⟩
theorem cN_of {Ts ws ws' : List Cond} (n : Nat) (ht : ∀ w ∈ Ts, w.before args s = true) (hG : GoodIn Ts ws) (hw : ws = Cond.code y bytes maxL none :: ws') (hrc : rm.cells = mc) (hrs : rm.slots = ms) (hl : va_Nw (.methodLinkNest own index y host) s) (hini : (Cond.initialized y.cls).before args s = true) (hin : (Cond.instanceMethod y).before args s = true) (hy1 : y.name = "<init>")
    (hd : y.cls ≠ "java/lang/invoke/MethodHandle" ∧ y.cls ≠ "java/lang/invoke/VarHandle" ∧ (parseMethodDescriptor y.desc).map (fun d => d.parameters.length) = some n) (hR : rm.frames + 1 ≤ R.frames ∧ 8 + (maxL + 11) + rm.locals ≤ R.locals) : va_CN R s args own index y host bytes maxL none ws rm mc ms n ∧ y.name = "<init>" ∧ (Cond.instanceMethod y).before args s = true :=
  ⟨va_cnB n ht hG hw hrc hrs hl hini hd hR, hy1, hin⟩
theorem gI (fix : CallFix p m c cc nL s args Ts own) (hM : CN l D tys y ws rm nest ao (.ref b :: As) gi mc ms h0 go) (cw : CallB R s args own index y bytes maxL none ws rm mc ms n ∧ y.name = "<init>" ∧ (Cond.instanceMethod y).before args s = true)
    (hK : va_K D vwCl tys s) (hE : exE nest ao s) (hP : va_P D vwCl (cat gs) H) (hD : va_D A0 (cat gs)) (hS : va_S A0 s.heap H locs) (hA : ∀ q, s.heap.size ≤ q → A0 q)
    (is : List Nat) (hi : is.map (fun i => gs[i]?) = gi.map some) (hn : va_nd is = true) (hlen : ∀ A, gi.length = (go A).length)
    (hAs : As.length = n) (hsize : ls.size = nL) (hst : st0 = As.reverse ++ .ref b :: rest) (hW : (rest.map fun v => v.category).sum ≤ 8) (hdg : decode cc pc = .ok (.invokespecial index, 3)) (hf : cells + mc ≤ R.cells ∧ slots + ms ≤ R.slots)
    (kk : ∀ (A : Nat → Nat) (H1 : Heap) (locs1 : List Loc), A 0 = h0 → va_P D vwCl (cat (sets gs is (go A))) H1 → va_D A0 (cat (sets gs is (go A))) → va_S A0 s.heap H1 locs1 → W p l e R s m args below meth c H1 locs1 (cells + mc) (slots + ms) Q (F0 m (pc + 3) ls rest)) :
    W p l e R s m args below meth c H locs cells slots Q (F0 m pc ls st0) := by
  have hPc := seg_P hP hn hi
  have hDc := seg_D hD hn hi
  have hFc := seg_F hD hS hA hn hi
  refine va_callv (va_runI (As := As) (rest := rest) fix (hM H.size) cw (gN_pre hPc hK hDc hE) rfl hAs hsize hst (lv_room hW) hdg hf) hS (fun q _ h => hFc q h) hFc (fun A t H1 locs1 ht hvm hw hB hz hk hS1 => ?_)
  obtain ⟨hP1, hK1, hD1⟩ := hB
  rw [ht] at hP1
  obtain ⟨hP2, hD2⟩ := seg_join hP hD hn hi (hlen A) hk hFc hP1 hD1
  exact kk A H1 locs1 hw hP2 hD2 hS1
theorem gN (fix : CallFix p m c cc nL s args Ts own) (hM : CN l D tys y ws rm nest ao (.ref b :: As) gi mc ms h0 go) (cw : va_CN R s args own index y host bytes maxL none ws rm mc ms n ∧ y.name = "<init>" ∧ (Cond.instanceMethod y).before args s = true)
    (hK : va_K D vwCl tys s) (hE : exE nest ao s) (hP : va_P D vwCl (cat gs) H) (hD : va_D A0 (cat gs)) (hS : va_S A0 s.heap H locs) (hA : ∀ q, s.heap.size ≤ q → A0 q)
    (is : List Nat) (hi : is.map (fun i => gs[i]?) = gi.map some) (hn : va_nd is = true) (hlen : ∀ A, gi.length = (go A).length)
    (hAs : As.length = n) (hsize : ls.size = nL) (hst : st0 = As.reverse ++ .ref b :: rest) (hW : (rest.map fun v => v.category).sum ≤ 8) (hdg : decode cc pc = .ok (.invokespecial index, 3)) (hf : cells + mc ≤ R.cells ∧ slots + ms ≤ R.slots)
    (kk : ∀ (A : Nat → Nat) (H1 : Heap) (locs1 : List Loc), A 0 = h0 → va_P D vwCl (cat (sets gs is (go A))) H1 → va_D A0 (cat (sets gs is (go A))) → va_S A0 s.heap H1 locs1 → W p l e R s m args below meth c H1 locs1 (cells + mc) (slots + ms) Q (F0 m (pc + 3) ls rest)) :
    W p l e R s m args below meth c H locs cells slots Q (F0 m pc ls st0) := by
  have hPc := seg_P hP hn hi
  have hDc := seg_D hD hn hi
  have hFc := seg_F hD hS hA hn hi
  refine va_callv (va_runIN (As := As) (rest := rest) fix (hM H.size) cw (gN_pre hPc hK hDc hE) rfl hAs hsize hst (lv_room hW) hdg hf) hS (fun q _ h => hFc q h) hFc (fun A t H1 locs1 ht hvm hw hB hz hk hS1 => ?_)
  obtain ⟨hP1, hK1, hD1⟩ := hB
  rw [ht] at hP1
  obtain ⟨hP2, hD2⟩ := seg_join hP hD hn hi (hlen A) hk hFc hP1 hD1
  exact kk A H1 locs1 hw hP2 hD2 hS1
theorem end_n {A : Nat → Nat} (hx : p.tables.exec = Jvm.exec) (hb : c.code = cc) (hr : meth.sig.returnType = none) (hlocks : meth.locks = false) (hK : va_K D vwCl tys s) (hA : A 0 = h0) (hP : va_P D vwCl (cat (go A)) H) (hD : va_D A0 (cat (go A))) (hS : va_S A0 s.heap H locs) (hdg : decode cc pc = .ok (.return_, 1)) :
    W p l e R s m args below meth c H locs cells slots (MQ below (va_Qv (fun (A : Nat → Nat) => A 0 = h0) (fun A => cB D tys A0 (go A)) A0) args s cells slots A0) (F0 m pc ls []) :=
  W.vret hx hb hr (fun t ht hW => ⟨⟨A, rfl, hA, by rw [ht]; exact hP, va_K.moved hW.alike hK, hD⟩, hS.F ht⟩) hS.2.2 hdg hlocks
theorem cy_int {cA cy : ClassId} {t0 : Nat} (ht : tys[t0]? = some (cy, FieldType.int)) (hK : va_K D vwCl (tys ++ [(cA, FieldType.int)]) s) : cA = cy := by
  have h1 := (hK.2 tys.length (cA, .int) (by rw [List.getElem?_append_right (Nat.le_refl _), Nat.sub_self]; rfl)).2
  have h2 := (hK.2 t0 (cy, .int) (by rw [List.getElem?_append_left (List.getElem?_eq_some_iff.mp ht).1]; exact ht)).2
  exact Option.some.inj (h1.symm.trans h2)
theorem cy_obj {cA cy : ClassId} {t0 : Nat} {X : String} (ht : tys[t0]? = some (cy, FieldType.object X)) (hK : va_K D vwCl (tys ++ [(cA, FieldType.object X)]) s) : cA = cy := by
  have h1 := (hK.2 tys.length (cA, .object X) (by rw [List.getElem?_append_right (Nat.le_refl _), Nat.sub_self]; rfl)).2
  have h2 := (hK.2 t0 (cy, .object X) (by rw [List.getElem?_append_left (List.getElem?_eq_some_iff.mp ht).1]; exact ht)).2
  obtain ⟨_, _, _, _, _, h3⟩ := h1
  obtain ⟨_, _, _, _, _, h4⟩ := h2
  exact Option.some.inj (h3.symm.trans h4)
theorem r_newa {A : Nat → Prop} {ws : va_W} {cy : ClassId} {t0 k : Nat} (hexec : p.tables.exec = Jvm.exec) (hb : c.code = cc) (harr : (Cond.arrayClass .int).before args s = true) (hK : va_K D vwCl tys s) (ht : tys[t0]? = some (cy, FieldType.int)) (hP : va_P D vwCl ws H) (hD : va_D A ws) (hS : va_S A s.heap H locs) (hA : ∀ q, s.heap.size ≤ q → A q)
    {i : Int32} (hi : i = nI k) (hk : k < 2147483648) (hbytes : k * 4 ≤ 536870912) (hf : cells + 1 ≤ R.cells ∧ slots + k ≤ R.slots) (hdg : decode cc pc = .ok (.newarray .int, 2))
    (kk : ∀ (q : Nat) (H1 : Heap), va_P D vwCl (ws ++ [(q, .inl (cy, k, .inl (fun _ => 0)))]) H1 → va_D A (ws ++ [(q, .inl (cy, k, .inl (fun _ => 0)))]) → va_S A s.heap H1 locs →
      W p l e R s m args below meth c H1 locs (cells + 1) (slots + k) Q (F0 m (pc + 2) ls (.ref q :: rest))) : W p l e R s m args below meth c H locs cells slots Q (F0 m pc ls (.int i :: rest)) := by
  subst hi
  refine va_newa (atype := .int) (ty := .int) (a0 := (k, .inl (fun _ => 0))) hexec hb harr rfl hK hP hD hS hA (fun cA => rfl) (nI_pos hk) (nI_clamp hk) hbytes hf.1 hf.2 hdg (fun q cA H1 hK1 hP1 hD1 hS1 => ?_)
  have e := cy_int ht hK1
  subst e
  exact kk q H1 hP1 hD1 hS1
theorem r_newq {A : Nat → Prop} {ws : va_W} {cy : ClassId} {t0 k : Nat} (hexec : p.tables.exec = Jvm.exec) (hb : c.code = cc) (hown : s.vm.findClass own = some m.cls) (hcl : (Cond.classLink own index RX1).before args s = true) (hao : va_AO RX1 s) (hK : va_K D vwCl tys s) (ht : tys[t0]? = some (cy, FieldType.object RX1)) (hP : va_P D vwCl ws H) (hD : va_D A ws) (hS : va_S A s.heap H locs) (hA : ∀ q, s.heap.size ≤ q → A q)
    {i : Int32} (hi : i = nI k) (hk : k < 2147483648) (hbytes : k * 4 ≤ 536870912) (hf : cells + 1 ≤ R.cells ∧ slots + k ≤ R.slots) (hdg : decode cc pc = .ok (.anewarray index, 3))
    (kk : ∀ (q : Nat) (H1 : Heap), va_P D vwCl (ws ++ [(q, .inl (cy, k, .inr (.inr (.inr (.inr (fun _ => none))))))]) H1 → va_D A (ws ++ [(q, .inl (cy, k, .inr (.inr (.inr (.inr (fun _ => none))))))]) → va_S A s.heap H1 locs →
      W p l e R s m args below meth c H1 locs (cells + 1) (slots + k) Q (F0 m (pc + 3) ls (.ref q :: rest))) : W p l e R s m args below meth c H locs cells slots Q (F0 m pc ls (.int i :: rest)) := by
  subst hi
  refine va_newq hexec hb hown hcl hao hK hP hD hS hA (nI_pos hk) (nI_clamp hk) hbytes hf.1 hf.2 hdg (fun q cA H1 hK1 hP1 hD1 hS1 => ?_)
  have e := cy_obj ht hK1
  subst e
  exact kk q H1 hP1 hD1 hS1
end CTOR2
theorem nfX0 : ∀ j, j < 2 → defaultValue (tyX0 j) = vp_V [.null, .int 0] j := by intro j hj; rcases (show j = 0 ∨ j = 1 by omega) with rfl | rfl <;> rfl
theorem nfX1 : ∀ j, j < 10 → defaultValue (tyX1 j) = vp_V [.null, .null, .null, .null, .null, .int 0, .int 0, .int 0, .int 0, .int 0] j := by intro j hj; rcases (show j = 0 ∨ j = 1 ∨ j = 2 ∨ j = 3 ∨ j = 4 ∨ j = 5 ∨ j = 6 ∨ j = 7 ∨ j = 8 ∨ j = 9 by omega) with rfl | rfl | rfl | rfl | rfl | rfl | rfl | rfl | rfl | rfl <;> rfl
theorem nfX2 : ∀ j, j < 2 → defaultValue (tyX2 j) = vp_V [.null, .int 0] j := by intro j hj; rcases (show j = 0 ∨ j = 1 by omega) with rfl | rfl <;> rfl
theorem nfX3 : ∀ j, j < 1 → defaultValue (tyX3 j) = vp_V [.null] j := by intro j hj; rcases (show j = 0 by omega) with rfl <;> rfl
theorem nfX4 : ∀ j, j < 6 → defaultValue (tyX4 j) = vp_V [.null, .null, .null, .null, .null, .null] j := by intro j hj; rcases (show j = 0 ∨ j = 1 ∨ j = 2 ∨ j = 3 ∨ j = 4 ∨ j = 5 by omega) with rfl | rfl | rfl | rfl | rfl | rfl <;> rfl
theorem nfX5 : ∀ j, j < 5 → defaultValue (tyX5 j) = vp_V [.null, .null, .null, .null, .null] j := by intro j hj; rcases (show j = 0 ∨ j = 1 ∨ j = 2 ∨ j = 3 ∨ j = 4 by omega) with rfl | rfl | rfl | rfl | rfl <;> rfl
def dy0 : DS := (fun _ => 0, fun _ => 0, fun _ => 0, fun _ => 0, fun _ => 0, 0, 0, 0, 0, 0)
def sh0 : SS := (fun _ => 0, fun _ => 0, fun _ => 0, fun _ => 0, fun _ => 0, fun _ => 0)
def ct0 : TS := (fun _ => 0, 0)

abbrev rm_X3_init (n : Nat) : Room := { frames := 1, cells := 1, slots := n, locals := 20 }
set_option maxHeartbeats 4000000 in
set_option maxRecDepth 100000 in
/-- new Row(n) -/
theorem c_X3_init (l : Launch) (G : va_G) (cyI cyO : ClassId) (h0 n : Nat) (hn : n < 1000) (hn0 : 0 < n) : CN l G (TY cyI cyO) yX3_init wsX3_init (rm_X3_init n) [] false [.ref (h0), .int (nI (n))] [[(h0, .inr (3, [.null]))]] 1 n h0 (fun A => [rowW cyI (A 0) (A 1) n (fun _ => 0)]) := by
  refine wk_N (cc := cX3_init) (maxL := 2) (ret := none) (by decide) rfl (Nat.le_of_ble_eq_true rfl) ?_
  intro p9 e9 s9 m9 b9 t9 c9 A9 ls hx hb hr hts hown hlocks hml hK hA hD hP hl hS hnm hE
  have hl : lv_has ls 2 [(0, .ref (h0)), (1, .int (nI (n)))] := hl
  have hinX3 : ∀ w ∈ wsX30, w ∈ wsX3_init := by decide +kernel
  have hf9 := hts (.fieldLink RX3 9 "DoorstepRounds$Row" "numbers" "[I") (by decide +kernel)
  refine lv_aload_n hx hb dX3_init_0 rfl (lv_at hl 0 rfl) ?_
  refine W.objInit hx hb hown (hts (.methodLink RX3 3 objectInit) (by decide +kernel)) (hts (.instanceMethod objectInit) (by decide +kernel)) (hts (.code objectInit ⟨#[0xb1]⟩ 1 none) (by decide +kernel)) rfl (by rw [hml]; exact hl.1) rfl dX3_init_1 (Nat.le_of_ble_eq_true rfl) (Nat.le_of_ble_eq_true rfl) ?_
  refine W.eq (g2 := F0 m9 4 ls []) rfl ?_
  refine lv_aload_n hx hb dX3_init_4 rfl (lv_at hl 0 rfl) ?_
  refine lv_iload_n hx hb dX3_init_5 rfl (lv_at hl 1 rfl) ?_
  refine lv_if_le (tgt := 13) hx hb dX3_init_6 (by decide) (fun c_6 => ?_) (fun c_6 => ?_)
  · have c_6 : (n) ≤ (0) := (nI_leI (a := n) (b := 0) (by omega) (by omega)).mp c_6
    exact absurd c_6 (by omega)
  · have c_6 : ¬ (n) ≤ (0) := fun h9 => c_6 ((nI_leI (a := n) (b := 0) (by omega) (by omega)).mpr h9)
    refine lv_iload_n hx hb dX3_init_9 rfl (lv_at hl 1 rfl) ?_
    refine lv_goto (tgt := 14) hx hb dX3_init_10 (by decide) ?_
    refine r_newa (t0 := 0) (k := n) hx hb (hts (.arrayClass .int) (by decide +kernel)) hK rfl hP hD hS hA rfl (by omega) (by omega) (⟨Nat.le_of_ble_eq_true rfl, by show 0 + n ≤ n; omega⟩) dX3_init_14 (fun a14 H hP hD hS => ?_)
    have hP : va_P G vwCl (cat [[(h0, .inr (3, [.null]))], [(a14, .inl (cyI, n, .inl (fun _ => 0)))]]) H := hP
    have hD : va_D A9 (cat [[(h0, .inr (3, [.null]))], [(a14, .inl (cyI, n, .inl (fun _ => 0)))]]) := hD
    refine W.cs (cells' := 1) (slots' := n) rfl (Nat.zero_add _) ?_
    refine va_putF (v := .ref (a14)) (ty := .array .int) (C := RX3) (T := TX3) (N := 1) hx hb hts hinX3 tyX3 tyX3_ok nmX3 hown hK hP hD hS 0 rfl rfl 0 (by decide) hf9 (fun _ h9 => h9) rfl hnm rfl (by first | rfl | decide +kernel) rfl rfl (Nat.le_of_ble_eq_true rfl) dX3_init_16 (fun H locs hP hD hS => ?_)
    have hP : va_P G vwCl (cat [[(h0, .inr (3, [.ref (a14)]))], [(a14, .inl (cyI, n, .inl (fun _ => 0)))]]) H := hP
    have hD : va_D A9 (cat [[(h0, .inr (3, [.ref (a14)]))], [(a14, .inl (cyI, n, .inl (fun _ => 0)))]]) := hD
    have hP : va_P G vwCl (cat [rowW cyI (((fun k => ([h0, a14] : List Nat).getD k 0)) 0) (((fun k => ([h0, a14] : List Nat).getD k 0)) 1) n (fun _ => 0)]) H := hP
    have hD : va_D A9 (cat [rowW cyI (((fun k => ([h0, a14] : List Nat).getD k 0)) 0) (((fun k => ([h0, a14] : List Nat).getD k 0)) 1) n (fun _ => 0)]) := hD
    exact end_n (A := (fun k => ([h0, a14] : List Nat).getD k 0)) hx hb hr hlocks hK rfl hP hD hS dX3_init_19
abbrev rm_X1_init : Room := { frames := 2, cells := 10, slots := 91, locals := 41 }
set_option maxHeartbeats 4000000 in
set_option maxRecDepth 100000 in
/-- new Dairy() -/
theorem c_X1_init (l : Launch) (G : va_G) (cyI cyO : ClassId) (h0 : Nat) : CN l G (TY cyI cyO) yX1_init wsX1_init rm_X1_init [] false [.ref (h0)] [[(h0, .inr (1, [.null, .null, .null, .null, .null, .int (0), .int (0), .int (0), .int (0), .int (0)]))]] 10 91 h0 (fun A => [dyW cyI A dy0]) := by
  refine wk_N (cc := cX1_init) (maxL := 1) (ret := none) (by decide) rfl (Nat.le_of_ble_eq_true rfl) ?_
  intro p9 e9 s9 m9 b9 t9 c9 A9 ls hx hb hr hts hown hlocks hml hK hA hD hP hl hS hnm hE
  have hl : lv_has ls 1 [(0, .ref (h0))] := hl
  have hinX1 : ∀ w ∈ wsX10, w ∈ wsX1_init := by decide +kernel
  have hinX3 : ∀ w ∈ wsX30, w ∈ wsX1_init := by decide +kernel
  have hf14 := hts (.fieldLink RX1 14 "DoorstepRounds$Dairy" "pints" "LDoorstepRounds$Row;") (by decide +kernel)
  have hf20 := hts (.fieldLink RX1 20 "DoorstepRounds$Dairy" "owners" "LDoorstepRounds$Row;") (by decide +kernel)
  have hf23 := hts (.fieldLink RX1 23 "DoorstepRounds$Dairy" "atWork" "LDoorstepRounds$Row;") (by decide +kernel)
  have hf26 := hts (.fieldLink RX1 26 "DoorstepRounds$Dairy" "newOwners" "LDoorstepRounds$Row;") (by decide +kernel)
  have hf29 := hts (.fieldLink RX1 29 "DoorstepRounds$Dairy" "oldOwners" "LDoorstepRounds$Row;") (by decide +kernel)
  have hf32 := hts (.fieldLink RX1 32 "DoorstepRounds$Dairy" "count" "I") (by decide +kernel)
  have hf36 := hts (.fieldLink RX1 36 "DoorstepRounds$Dairy" "step" "I") (by decide +kernel)
  have hf39 := hts (.fieldLink RX1 39 "DoorstepRounds$Dairy" "takenOver" "I") (by decide +kernel)
  have hf42 := hts (.fieldLink RX1 42 "DoorstepRounds$Dairy" "pintsBrought" "I") (by decide +kernel)
  have hf45 := hts (.fieldLink RX1 45 "DoorstepRounds$Dairy" "missed" "I") (by decide +kernel)
  refine lv_aload_n hx hb dX1_init_0 rfl (lv_at hl 0 rfl) ?_
  refine W.objInit hx hb hown (hts (.methodLink RX1 3 objectInit) (by decide +kernel)) (hts (.instanceMethod objectInit) (by decide +kernel)) (hts (.code objectInit ⟨#[0xb1]⟩ 1 none) (by decide +kernel)) rfl (by rw [hml]; exact hl.1) rfl dX1_init_1 (Nat.le_of_ble_eq_true rfl) (Nat.le_of_ble_eq_true rfl) ?_
  refine W.eq (g2 := F0 m9 4 ls []) rfl ?_
  refine lv_aload_n hx hb dX1_init_4 rfl (lv_at hl 0 rfl) ?_
  refine va_new (ci := 3) (fs := [.null]) (C := RX3) (T := TX3) (N := 1) hx hb hts (hinX3) tyX3 tyX3_ok hown (hts (.classLink RX1 9 RX3) (by decide +kernel)) (hts (.instantiable RX3 1) (by decide +kernel)) (hts (.initialized RX3) (by decide +kernel)) hK hP hD hS hA rfl nfX3 (Nat.le_of_ble_eq_true rfl) (Nat.le_of_ble_eq_true rfl) dX1_init_5 (fun q5 H hP hD hS => ?_)
  have hP : va_P G vwCl (cat [[(h0, .inr (1, [.null, .null, .null, .null, .null, .int (0), .int (0), .int (0), .int (0), .int (0)]))], [(q5, .inr (3, [.null]))]]) H := hP
  have hD : va_D A9 (cat [[(h0, .inr (1, [.null, .null, .null, .null, .null, .int (0), .int (0), .int (0), .int (0), .int (0)]))], [(q5, .inr (3, [.null]))]]) := hD
  refine W.cs (cells' := 1) (slots' := 1) rfl rfl ?_
  refine lv_dup hx hb dX1_init_8 rfl ?_
  refine lv_bipush (v := (20 : Int32)) hx hb dX1_init_9 (by decide) ?_
  refine gI (gs := [[(h0, .inr (1, [.null, .null, .null, .null, .null, .int (0), .int (0), .int (0), .int (0), .int (0)]))], [(q5, .inr (3, [.null]))]]) (As := [.int ((20 : Int32))]) (rest := [.ref (q5), .ref (h0)]) ⟨hx, hb, hml, hown, hts⟩ (c_X3_init l G cyI cyO q5 20 (by omega) (by omega)) (cwI 1 hts gX1_init_X3_init rfl rfl rfl (hts (.initialized RX3) (by decide +kernel)) (hts (.methodLink RX1 11 yX3_init) (by decide +kernel)) (hts (.instanceMethod yX3_init) (by decide +kernel)) rfl (by decide +kernel) ⟨Nat.le_of_ble_eq_true rfl, Nat.le_of_ble_eq_true rfl⟩) hK (hE.sub (by simp) (by simp)) hP hD hS hA [1] rfl rfl (fun _ => rfl) rfl hl.1 rfl (Nat.le_of_ble_eq_true rfl) dX1_init_11 ⟨Nat.le_of_ble_eq_true rfl, Nat.le_of_ble_eq_true rfl⟩ (fun B11 H locs hA9 hP hD hS => ?_)
  have hP : va_P G vwCl (cat [[(h0, .inr (1, [.null, .null, .null, .null, .null, .int (0), .int (0), .int (0), .int (0), .int (0)]))], rowW cyI (B11 0) (B11 1) (20) (fun _ => 0)]) H := hP
  have hD : va_D A9 (cat [[(h0, .inr (1, [.null, .null, .null, .null, .null, .int (0), .int (0), .int (0), .int (0), .int (0)]))], rowW cyI (B11 0) (B11 1) (20) (fun _ => 0)]) := hD
  subst hA9
  have hP : va_P G vwCl (cat [[(h0, .inr (1, [.null, .null, .null, .null, .null, .int (0), .int (0), .int (0), .int (0), .int (0)]))], rowW cyI (B11 0) (B11 1) (20) (fun _ => 0)]) H := hP
  have hD : va_D A9 (cat [[(h0, .inr (1, [.null, .null, .null, .null, .null, .int (0), .int (0), .int (0), .int (0), .int (0)]))], rowW cyI (B11 0) (B11 1) (20) (fun _ => 0)]) := hD
  refine W.cs (cells' := 2) (slots' := 21) rfl rfl ?_
  refine va_putF (v := .ref (B11 0)) (ty := .object "DoorstepRounds$Row") (C := RX1) (T := TX1) (N := 10) hx hb hts hinX1 tyX1 tyX1_ok nmX1 hown hK hP hD hS 0 rfl rfl 0 (by decide) hf14 (fun _ h9 => h9) rfl hnm rfl (by first | rfl | decide +kernel) rfl rfl (Nat.le_of_ble_eq_true rfl) dX1_init_14 (fun H locs hP hD hS => ?_)
  have hP : va_P G vwCl (cat [[(h0, .inr (1, [.ref (B11 0), .null, .null, .null, .null, .int (0), .int (0), .int (0), .int (0), .int (0)]))], rowW cyI (B11 0) (B11 1) (20) (fun _ => 0)]) H := hP
  have hD : va_D A9 (cat [[(h0, .inr (1, [.ref (B11 0), .null, .null, .null, .null, .int (0), .int (0), .int (0), .int (0), .int (0)]))], rowW cyI (B11 0) (B11 1) (20) (fun _ => 0)]) := hD
  refine lv_aload_n hx hb dX1_init_17 rfl (lv_at hl 0 rfl) ?_
  refine va_new (ci := 3) (fs := [.null]) (C := RX3) (T := TX3) (N := 1) hx hb hts (hinX3) tyX3 tyX3_ok hown (hts (.classLink RX1 9 RX3) (by decide +kernel)) (hts (.instantiable RX3 1) (by decide +kernel)) (hts (.initialized RX3) (by decide +kernel)) hK hP hD hS hA rfl nfX3 (Nat.le_of_ble_eq_true rfl) (Nat.le_of_ble_eq_true rfl) dX1_init_18 (fun q18 H hP hD hS => ?_)
  have hP : va_P G vwCl (cat [[(h0, .inr (1, [.ref (B11 0), .null, .null, .null, .null, .int (0), .int (0), .int (0), .int (0), .int (0)]))], rowW cyI (B11 0) (B11 1) (20) (fun _ => 0), [(q18, .inr (3, [.null]))]]) H := hP
  have hD : va_D A9 (cat [[(h0, .inr (1, [.ref (B11 0), .null, .null, .null, .null, .int (0), .int (0), .int (0), .int (0), .int (0)]))], rowW cyI (B11 0) (B11 1) (20) (fun _ => 0), [(q18, .inr (3, [.null]))]]) := hD
  refine W.cs (cells' := 3) (slots' := 22) rfl rfl ?_
  refine lv_dup hx hb dX1_init_21 rfl ?_
  refine lv_bipush (v := (20 : Int32)) hx hb dX1_init_22 (by decide) ?_
  refine gI (gs := [[(h0, .inr (1, [.ref (B11 0), .null, .null, .null, .null, .int (0), .int (0), .int (0), .int (0), .int (0)]))], rowW cyI (B11 0) (B11 1) (20) (fun _ => 0), [(q18, .inr (3, [.null]))]]) (As := [.int ((20 : Int32))]) (rest := [.ref (q18), .ref (h0)]) ⟨hx, hb, hml, hown, hts⟩ (c_X3_init l G cyI cyO q18 20 (by omega) (by omega)) (cwI 1 hts gX1_init_X3_init rfl rfl rfl (hts (.initialized RX3) (by decide +kernel)) (hts (.methodLink RX1 11 yX3_init) (by decide +kernel)) (hts (.instanceMethod yX3_init) (by decide +kernel)) rfl (by decide +kernel) ⟨Nat.le_of_ble_eq_true rfl, Nat.le_of_ble_eq_true rfl⟩) hK (hE.sub (by simp) (by simp)) hP hD hS hA [2] rfl rfl (fun _ => rfl) rfl hl.1 rfl (Nat.le_of_ble_eq_true rfl) dX1_init_24 ⟨Nat.le_of_ble_eq_true rfl, Nat.le_of_ble_eq_true rfl⟩ (fun B24 H locs hA9 hP hD hS => ?_)
  have hP : va_P G vwCl (cat [[(h0, .inr (1, [.ref (B11 0), .null, .null, .null, .null, .int (0), .int (0), .int (0), .int (0), .int (0)]))], rowW cyI (B11 0) (B11 1) (20) (fun _ => 0), rowW cyI (B24 0) (B24 1) (20) (fun _ => 0)]) H := hP
  have hD : va_D A9 (cat [[(h0, .inr (1, [.ref (B11 0), .null, .null, .null, .null, .int (0), .int (0), .int (0), .int (0), .int (0)]))], rowW cyI (B11 0) (B11 1) (20) (fun _ => 0), rowW cyI (B24 0) (B24 1) (20) (fun _ => 0)]) := hD
  subst hA9
  have hP : va_P G vwCl (cat [[(h0, .inr (1, [.ref (B11 0), .null, .null, .null, .null, .int (0), .int (0), .int (0), .int (0), .int (0)]))], rowW cyI (B11 0) (B11 1) (20) (fun _ => 0), rowW cyI (B24 0) (B24 1) (20) (fun _ => 0)]) H := hP
  have hD : va_D A9 (cat [[(h0, .inr (1, [.ref (B11 0), .null, .null, .null, .null, .int (0), .int (0), .int (0), .int (0), .int (0)]))], rowW cyI (B11 0) (B11 1) (20) (fun _ => 0), rowW cyI (B24 0) (B24 1) (20) (fun _ => 0)]) := hD
  refine W.cs (cells' := 4) (slots' := 42) rfl rfl ?_
  refine va_putF (v := .ref (B24 0)) (ty := .object "DoorstepRounds$Row") (C := RX1) (T := TX1) (N := 10) hx hb hts hinX1 tyX1 tyX1_ok nmX1 hown hK hP hD hS 0 rfl rfl 1 (by decide) hf20 (fun _ h9 => h9) rfl hnm rfl (by first | rfl | decide +kernel) rfl rfl (Nat.le_of_ble_eq_true rfl) dX1_init_27 (fun H locs hP hD hS => ?_)
  have hP : va_P G vwCl (cat [[(h0, .inr (1, [.ref (B11 0), .ref (B24 0), .null, .null, .null, .int (0), .int (0), .int (0), .int (0), .int (0)]))], rowW cyI (B11 0) (B11 1) (20) (fun _ => 0), rowW cyI (B24 0) (B24 1) (20) (fun _ => 0)]) H := hP
  have hD : va_D A9 (cat [[(h0, .inr (1, [.ref (B11 0), .ref (B24 0), .null, .null, .null, .int (0), .int (0), .int (0), .int (0), .int (0)]))], rowW cyI (B11 0) (B11 1) (20) (fun _ => 0), rowW cyI (B24 0) (B24 1) (20) (fun _ => 0)]) := hD
  refine lv_aload_n hx hb dX1_init_30 rfl (lv_at hl 0 rfl) ?_
  refine va_new (ci := 3) (fs := [.null]) (C := RX3) (T := TX3) (N := 1) hx hb hts (hinX3) tyX3 tyX3_ok hown (hts (.classLink RX1 9 RX3) (by decide +kernel)) (hts (.instantiable RX3 1) (by decide +kernel)) (hts (.initialized RX3) (by decide +kernel)) hK hP hD hS hA rfl nfX3 (Nat.le_of_ble_eq_true rfl) (Nat.le_of_ble_eq_true rfl) dX1_init_31 (fun q31 H hP hD hS => ?_)
  have hP : va_P G vwCl (cat [[(h0, .inr (1, [.ref (B11 0), .ref (B24 0), .null, .null, .null, .int (0), .int (0), .int (0), .int (0), .int (0)]))], rowW cyI (B11 0) (B11 1) (20) (fun _ => 0), rowW cyI (B24 0) (B24 1) (20) (fun _ => 0), [(q31, .inr (3, [.null]))]]) H := hP
  have hD : va_D A9 (cat [[(h0, .inr (1, [.ref (B11 0), .ref (B24 0), .null, .null, .null, .int (0), .int (0), .int (0), .int (0), .int (0)]))], rowW cyI (B11 0) (B11 1) (20) (fun _ => 0), rowW cyI (B24 0) (B24 1) (20) (fun _ => 0), [(q31, .inr (3, [.null]))]]) := hD
  refine W.cs (cells' := 5) (slots' := 43) rfl rfl ?_
  refine lv_dup hx hb dX1_init_34 rfl ?_
  refine lv_bipush (v := (6 : Int32)) hx hb dX1_init_35 (by decide) ?_
  refine gI (gs := [[(h0, .inr (1, [.ref (B11 0), .ref (B24 0), .null, .null, .null, .int (0), .int (0), .int (0), .int (0), .int (0)]))], rowW cyI (B11 0) (B11 1) (20) (fun _ => 0), rowW cyI (B24 0) (B24 1) (20) (fun _ => 0), [(q31, .inr (3, [.null]))]]) (As := [.int ((6 : Int32))]) (rest := [.ref (q31), .ref (h0)]) ⟨hx, hb, hml, hown, hts⟩ (c_X3_init l G cyI cyO q31 6 (by omega) (by omega)) (cwI 1 hts gX1_init_X3_init rfl rfl rfl (hts (.initialized RX3) (by decide +kernel)) (hts (.methodLink RX1 11 yX3_init) (by decide +kernel)) (hts (.instanceMethod yX3_init) (by decide +kernel)) rfl (by decide +kernel) ⟨Nat.le_of_ble_eq_true rfl, Nat.le_of_ble_eq_true rfl⟩) hK (hE.sub (by simp) (by simp)) hP hD hS hA [3] rfl rfl (fun _ => rfl) rfl hl.1 rfl (Nat.le_of_ble_eq_true rfl) dX1_init_37 ⟨Nat.le_of_ble_eq_true rfl, Nat.le_of_ble_eq_true rfl⟩ (fun B37 H locs hA9 hP hD hS => ?_)
  have hP : va_P G vwCl (cat [[(h0, .inr (1, [.ref (B11 0), .ref (B24 0), .null, .null, .null, .int (0), .int (0), .int (0), .int (0), .int (0)]))], rowW cyI (B11 0) (B11 1) (20) (fun _ => 0), rowW cyI (B24 0) (B24 1) (20) (fun _ => 0), rowW cyI (B37 0) (B37 1) (6) (fun _ => 0)]) H := hP
  have hD : va_D A9 (cat [[(h0, .inr (1, [.ref (B11 0), .ref (B24 0), .null, .null, .null, .int (0), .int (0), .int (0), .int (0), .int (0)]))], rowW cyI (B11 0) (B11 1) (20) (fun _ => 0), rowW cyI (B24 0) (B24 1) (20) (fun _ => 0), rowW cyI (B37 0) (B37 1) (6) (fun _ => 0)]) := hD
  subst hA9
  have hP : va_P G vwCl (cat [[(h0, .inr (1, [.ref (B11 0), .ref (B24 0), .null, .null, .null, .int (0), .int (0), .int (0), .int (0), .int (0)]))], rowW cyI (B11 0) (B11 1) (20) (fun _ => 0), rowW cyI (B24 0) (B24 1) (20) (fun _ => 0), rowW cyI (B37 0) (B37 1) (6) (fun _ => 0)]) H := hP
  have hD : va_D A9 (cat [[(h0, .inr (1, [.ref (B11 0), .ref (B24 0), .null, .null, .null, .int (0), .int (0), .int (0), .int (0), .int (0)]))], rowW cyI (B11 0) (B11 1) (20) (fun _ => 0), rowW cyI (B24 0) (B24 1) (20) (fun _ => 0), rowW cyI (B37 0) (B37 1) (6) (fun _ => 0)]) := hD
  refine W.cs (cells' := 6) (slots' := 49) rfl rfl ?_
  refine va_putF (v := .ref (B37 0)) (ty := .object "DoorstepRounds$Row") (C := RX1) (T := TX1) (N := 10) hx hb hts hinX1 tyX1 tyX1_ok nmX1 hown hK hP hD hS 0 rfl rfl 2 (by decide) hf23 (fun _ h9 => h9) rfl hnm rfl (by first | rfl | decide +kernel) rfl rfl (Nat.le_of_ble_eq_true rfl) dX1_init_40 (fun H locs hP hD hS => ?_)
  have hP : va_P G vwCl (cat [[(h0, .inr (1, [.ref (B11 0), .ref (B24 0), .ref (B37 0), .null, .null, .int (0), .int (0), .int (0), .int (0), .int (0)]))], rowW cyI (B11 0) (B11 1) (20) (fun _ => 0), rowW cyI (B24 0) (B24 1) (20) (fun _ => 0), rowW cyI (B37 0) (B37 1) (6) (fun _ => 0)]) H := hP
  have hD : va_D A9 (cat [[(h0, .inr (1, [.ref (B11 0), .ref (B24 0), .ref (B37 0), .null, .null, .int (0), .int (0), .int (0), .int (0), .int (0)]))], rowW cyI (B11 0) (B11 1) (20) (fun _ => 0), rowW cyI (B24 0) (B24 1) (20) (fun _ => 0), rowW cyI (B37 0) (B37 1) (6) (fun _ => 0)]) := hD
  refine lv_aload_n hx hb dX1_init_43 rfl (lv_at hl 0 rfl) ?_
  refine va_new (ci := 3) (fs := [.null]) (C := RX3) (T := TX3) (N := 1) hx hb hts (hinX3) tyX3 tyX3_ok hown (hts (.classLink RX1 9 RX3) (by decide +kernel)) (hts (.instantiable RX3 1) (by decide +kernel)) (hts (.initialized RX3) (by decide +kernel)) hK hP hD hS hA rfl nfX3 (Nat.le_of_ble_eq_true rfl) (Nat.le_of_ble_eq_true rfl) dX1_init_44 (fun q44 H hP hD hS => ?_)
  have hP : va_P G vwCl (cat [[(h0, .inr (1, [.ref (B11 0), .ref (B24 0), .ref (B37 0), .null, .null, .int (0), .int (0), .int (0), .int (0), .int (0)]))], rowW cyI (B11 0) (B11 1) (20) (fun _ => 0), rowW cyI (B24 0) (B24 1) (20) (fun _ => 0), rowW cyI (B37 0) (B37 1) (6) (fun _ => 0), [(q44, .inr (3, [.null]))]]) H := hP
  have hD : va_D A9 (cat [[(h0, .inr (1, [.ref (B11 0), .ref (B24 0), .ref (B37 0), .null, .null, .int (0), .int (0), .int (0), .int (0), .int (0)]))], rowW cyI (B11 0) (B11 1) (20) (fun _ => 0), rowW cyI (B24 0) (B24 1) (20) (fun _ => 0), rowW cyI (B37 0) (B37 1) (6) (fun _ => 0), [(q44, .inr (3, [.null]))]]) := hD
  refine W.cs (cells' := 7) (slots' := 50) rfl rfl ?_
  refine lv_dup hx hb dX1_init_47 rfl ?_
  refine lv_bipush (v := (20 : Int32)) hx hb dX1_init_48 (by decide) ?_
  refine gI (gs := [[(h0, .inr (1, [.ref (B11 0), .ref (B24 0), .ref (B37 0), .null, .null, .int (0), .int (0), .int (0), .int (0), .int (0)]))], rowW cyI (B11 0) (B11 1) (20) (fun _ => 0), rowW cyI (B24 0) (B24 1) (20) (fun _ => 0), rowW cyI (B37 0) (B37 1) (6) (fun _ => 0), [(q44, .inr (3, [.null]))]]) (As := [.int ((20 : Int32))]) (rest := [.ref (q44), .ref (h0)]) ⟨hx, hb, hml, hown, hts⟩ (c_X3_init l G cyI cyO q44 20 (by omega) (by omega)) (cwI 1 hts gX1_init_X3_init rfl rfl rfl (hts (.initialized RX3) (by decide +kernel)) (hts (.methodLink RX1 11 yX3_init) (by decide +kernel)) (hts (.instanceMethod yX3_init) (by decide +kernel)) rfl (by decide +kernel) ⟨Nat.le_of_ble_eq_true rfl, Nat.le_of_ble_eq_true rfl⟩) hK (hE.sub (by simp) (by simp)) hP hD hS hA [4] rfl rfl (fun _ => rfl) rfl hl.1 rfl (Nat.le_of_ble_eq_true rfl) dX1_init_50 ⟨Nat.le_of_ble_eq_true rfl, Nat.le_of_ble_eq_true rfl⟩ (fun B50 H locs hA9 hP hD hS => ?_)
  have hP : va_P G vwCl (cat [[(h0, .inr (1, [.ref (B11 0), .ref (B24 0), .ref (B37 0), .null, .null, .int (0), .int (0), .int (0), .int (0), .int (0)]))], rowW cyI (B11 0) (B11 1) (20) (fun _ => 0), rowW cyI (B24 0) (B24 1) (20) (fun _ => 0), rowW cyI (B37 0) (B37 1) (6) (fun _ => 0), rowW cyI (B50 0) (B50 1) (20) (fun _ => 0)]) H := hP
  have hD : va_D A9 (cat [[(h0, .inr (1, [.ref (B11 0), .ref (B24 0), .ref (B37 0), .null, .null, .int (0), .int (0), .int (0), .int (0), .int (0)]))], rowW cyI (B11 0) (B11 1) (20) (fun _ => 0), rowW cyI (B24 0) (B24 1) (20) (fun _ => 0), rowW cyI (B37 0) (B37 1) (6) (fun _ => 0), rowW cyI (B50 0) (B50 1) (20) (fun _ => 0)]) := hD
  subst hA9
  have hP : va_P G vwCl (cat [[(h0, .inr (1, [.ref (B11 0), .ref (B24 0), .ref (B37 0), .null, .null, .int (0), .int (0), .int (0), .int (0), .int (0)]))], rowW cyI (B11 0) (B11 1) (20) (fun _ => 0), rowW cyI (B24 0) (B24 1) (20) (fun _ => 0), rowW cyI (B37 0) (B37 1) (6) (fun _ => 0), rowW cyI (B50 0) (B50 1) (20) (fun _ => 0)]) H := hP
  have hD : va_D A9 (cat [[(h0, .inr (1, [.ref (B11 0), .ref (B24 0), .ref (B37 0), .null, .null, .int (0), .int (0), .int (0), .int (0), .int (0)]))], rowW cyI (B11 0) (B11 1) (20) (fun _ => 0), rowW cyI (B24 0) (B24 1) (20) (fun _ => 0), rowW cyI (B37 0) (B37 1) (6) (fun _ => 0), rowW cyI (B50 0) (B50 1) (20) (fun _ => 0)]) := hD
  refine W.cs (cells' := 8) (slots' := 70) rfl rfl ?_
  refine va_putF (v := .ref (B50 0)) (ty := .object "DoorstepRounds$Row") (C := RX1) (T := TX1) (N := 10) hx hb hts hinX1 tyX1 tyX1_ok nmX1 hown hK hP hD hS 0 rfl rfl 3 (by decide) hf26 (fun _ h9 => h9) rfl hnm rfl (by first | rfl | decide +kernel) rfl rfl (Nat.le_of_ble_eq_true rfl) dX1_init_53 (fun H locs hP hD hS => ?_)
  have hP : va_P G vwCl (cat [[(h0, .inr (1, [.ref (B11 0), .ref (B24 0), .ref (B37 0), .ref (B50 0), .null, .int (0), .int (0), .int (0), .int (0), .int (0)]))], rowW cyI (B11 0) (B11 1) (20) (fun _ => 0), rowW cyI (B24 0) (B24 1) (20) (fun _ => 0), rowW cyI (B37 0) (B37 1) (6) (fun _ => 0), rowW cyI (B50 0) (B50 1) (20) (fun _ => 0)]) H := hP
  have hD : va_D A9 (cat [[(h0, .inr (1, [.ref (B11 0), .ref (B24 0), .ref (B37 0), .ref (B50 0), .null, .int (0), .int (0), .int (0), .int (0), .int (0)]))], rowW cyI (B11 0) (B11 1) (20) (fun _ => 0), rowW cyI (B24 0) (B24 1) (20) (fun _ => 0), rowW cyI (B37 0) (B37 1) (6) (fun _ => 0), rowW cyI (B50 0) (B50 1) (20) (fun _ => 0)]) := hD
  refine lv_aload_n hx hb dX1_init_56 rfl (lv_at hl 0 rfl) ?_
  refine va_new (ci := 3) (fs := [.null]) (C := RX3) (T := TX3) (N := 1) hx hb hts (hinX3) tyX3 tyX3_ok hown (hts (.classLink RX1 9 RX3) (by decide +kernel)) (hts (.instantiable RX3 1) (by decide +kernel)) (hts (.initialized RX3) (by decide +kernel)) hK hP hD hS hA rfl nfX3 (Nat.le_of_ble_eq_true rfl) (Nat.le_of_ble_eq_true rfl) dX1_init_57 (fun q57 H hP hD hS => ?_)
  have hP : va_P G vwCl (cat [[(h0, .inr (1, [.ref (B11 0), .ref (B24 0), .ref (B37 0), .ref (B50 0), .null, .int (0), .int (0), .int (0), .int (0), .int (0)]))], rowW cyI (B11 0) (B11 1) (20) (fun _ => 0), rowW cyI (B24 0) (B24 1) (20) (fun _ => 0), rowW cyI (B37 0) (B37 1) (6) (fun _ => 0), rowW cyI (B50 0) (B50 1) (20) (fun _ => 0), [(q57, .inr (3, [.null]))]]) H := hP
  have hD : va_D A9 (cat [[(h0, .inr (1, [.ref (B11 0), .ref (B24 0), .ref (B37 0), .ref (B50 0), .null, .int (0), .int (0), .int (0), .int (0), .int (0)]))], rowW cyI (B11 0) (B11 1) (20) (fun _ => 0), rowW cyI (B24 0) (B24 1) (20) (fun _ => 0), rowW cyI (B37 0) (B37 1) (6) (fun _ => 0), rowW cyI (B50 0) (B50 1) (20) (fun _ => 0), [(q57, .inr (3, [.null]))]]) := hD
  refine W.cs (cells' := 9) (slots' := 71) rfl rfl ?_
  refine lv_dup hx hb dX1_init_60 rfl ?_
  refine lv_bipush (v := (20 : Int32)) hx hb dX1_init_61 (by decide) ?_
  refine gI (gs := [[(h0, .inr (1, [.ref (B11 0), .ref (B24 0), .ref (B37 0), .ref (B50 0), .null, .int (0), .int (0), .int (0), .int (0), .int (0)]))], rowW cyI (B11 0) (B11 1) (20) (fun _ => 0), rowW cyI (B24 0) (B24 1) (20) (fun _ => 0), rowW cyI (B37 0) (B37 1) (6) (fun _ => 0), rowW cyI (B50 0) (B50 1) (20) (fun _ => 0), [(q57, .inr (3, [.null]))]]) (As := [.int ((20 : Int32))]) (rest := [.ref (q57), .ref (h0)]) ⟨hx, hb, hml, hown, hts⟩ (c_X3_init l G cyI cyO q57 20 (by omega) (by omega)) (cwI 1 hts gX1_init_X3_init rfl rfl rfl (hts (.initialized RX3) (by decide +kernel)) (hts (.methodLink RX1 11 yX3_init) (by decide +kernel)) (hts (.instanceMethod yX3_init) (by decide +kernel)) rfl (by decide +kernel) ⟨Nat.le_of_ble_eq_true rfl, Nat.le_of_ble_eq_true rfl⟩) hK (hE.sub (by simp) (by simp)) hP hD hS hA [5] rfl rfl (fun _ => rfl) rfl hl.1 rfl (Nat.le_of_ble_eq_true rfl) dX1_init_63 ⟨Nat.le_of_ble_eq_true rfl, Nat.le_of_ble_eq_true rfl⟩ (fun B63 H locs hA9 hP hD hS => ?_)
  have hP : va_P G vwCl (cat [[(h0, .inr (1, [.ref (B11 0), .ref (B24 0), .ref (B37 0), .ref (B50 0), .null, .int (0), .int (0), .int (0), .int (0), .int (0)]))], rowW cyI (B11 0) (B11 1) (20) (fun _ => 0), rowW cyI (B24 0) (B24 1) (20) (fun _ => 0), rowW cyI (B37 0) (B37 1) (6) (fun _ => 0), rowW cyI (B50 0) (B50 1) (20) (fun _ => 0), rowW cyI (B63 0) (B63 1) (20) (fun _ => 0)]) H := hP
  have hD : va_D A9 (cat [[(h0, .inr (1, [.ref (B11 0), .ref (B24 0), .ref (B37 0), .ref (B50 0), .null, .int (0), .int (0), .int (0), .int (0), .int (0)]))], rowW cyI (B11 0) (B11 1) (20) (fun _ => 0), rowW cyI (B24 0) (B24 1) (20) (fun _ => 0), rowW cyI (B37 0) (B37 1) (6) (fun _ => 0), rowW cyI (B50 0) (B50 1) (20) (fun _ => 0), rowW cyI (B63 0) (B63 1) (20) (fun _ => 0)]) := hD
  subst hA9
  have hP : va_P G vwCl (cat [[(h0, .inr (1, [.ref (B11 0), .ref (B24 0), .ref (B37 0), .ref (B50 0), .null, .int (0), .int (0), .int (0), .int (0), .int (0)]))], rowW cyI (B11 0) (B11 1) (20) (fun _ => 0), rowW cyI (B24 0) (B24 1) (20) (fun _ => 0), rowW cyI (B37 0) (B37 1) (6) (fun _ => 0), rowW cyI (B50 0) (B50 1) (20) (fun _ => 0), rowW cyI (B63 0) (B63 1) (20) (fun _ => 0)]) H := hP
  have hD : va_D A9 (cat [[(h0, .inr (1, [.ref (B11 0), .ref (B24 0), .ref (B37 0), .ref (B50 0), .null, .int (0), .int (0), .int (0), .int (0), .int (0)]))], rowW cyI (B11 0) (B11 1) (20) (fun _ => 0), rowW cyI (B24 0) (B24 1) (20) (fun _ => 0), rowW cyI (B37 0) (B37 1) (6) (fun _ => 0), rowW cyI (B50 0) (B50 1) (20) (fun _ => 0), rowW cyI (B63 0) (B63 1) (20) (fun _ => 0)]) := hD
  refine W.cs (cells' := 10) (slots' := 91) rfl rfl ?_
  refine va_putF (v := .ref (B63 0)) (ty := .object "DoorstepRounds$Row") (C := RX1) (T := TX1) (N := 10) hx hb hts hinX1 tyX1 tyX1_ok nmX1 hown hK hP hD hS 0 rfl rfl 4 (by decide) hf29 (fun _ h9 => h9) rfl hnm rfl (by first | rfl | decide +kernel) rfl rfl (Nat.le_of_ble_eq_true rfl) dX1_init_66 (fun H locs hP hD hS => ?_)
  have hP : va_P G vwCl (cat [[(h0, .inr (1, [.ref (B11 0), .ref (B24 0), .ref (B37 0), .ref (B50 0), .ref (B63 0), .int (0), .int (0), .int (0), .int (0), .int (0)]))], rowW cyI (B11 0) (B11 1) (20) (fun _ => 0), rowW cyI (B24 0) (B24 1) (20) (fun _ => 0), rowW cyI (B37 0) (B37 1) (6) (fun _ => 0), rowW cyI (B50 0) (B50 1) (20) (fun _ => 0), rowW cyI (B63 0) (B63 1) (20) (fun _ => 0)]) H := hP
  have hD : va_D A9 (cat [[(h0, .inr (1, [.ref (B11 0), .ref (B24 0), .ref (B37 0), .ref (B50 0), .ref (B63 0), .int (0), .int (0), .int (0), .int (0), .int (0)]))], rowW cyI (B11 0) (B11 1) (20) (fun _ => 0), rowW cyI (B24 0) (B24 1) (20) (fun _ => 0), rowW cyI (B37 0) (B37 1) (6) (fun _ => 0), rowW cyI (B50 0) (B50 1) (20) (fun _ => 0), rowW cyI (B63 0) (B63 1) (20) (fun _ => 0)]) := hD
  refine lv_aload_n hx hb dX1_init_69 rfl (lv_at hl 0 rfl) ?_
  refine lv_iconst (v := (0 : Int32)) hx hb dX1_init_70 (by decide) ?_
  refine va_put (v := .int ((0 : Int32))) (ty := .int) (C := RX1) (T := TX1) (N := 10) hx hb hts hinX1 tyX1 tyX1_ok nmX1 hown hK hP hD hS 0 rfl rfl 5 (by decide) hf32 (fun _ h9 => h9) rfl (by first | rfl | decide +kernel) rfl rfl (Nat.le_of_ble_eq_true rfl) dX1_init_71 (fun H locs hP hD hS => ?_)
  have hP : va_P G vwCl (cat [[(h0, .inr (1, [.ref (B11 0), .ref (B24 0), .ref (B37 0), .ref (B50 0), .ref (B63 0), .int ((0 : Int32)), .int (0), .int (0), .int (0), .int (0)]))], rowW cyI (B11 0) (B11 1) (20) (fun _ => 0), rowW cyI (B24 0) (B24 1) (20) (fun _ => 0), rowW cyI (B37 0) (B37 1) (6) (fun _ => 0), rowW cyI (B50 0) (B50 1) (20) (fun _ => 0), rowW cyI (B63 0) (B63 1) (20) (fun _ => 0)]) H := hP
  have hD : va_D A9 (cat [[(h0, .inr (1, [.ref (B11 0), .ref (B24 0), .ref (B37 0), .ref (B50 0), .ref (B63 0), .int ((0 : Int32)), .int (0), .int (0), .int (0), .int (0)]))], rowW cyI (B11 0) (B11 1) (20) (fun _ => 0), rowW cyI (B24 0) (B24 1) (20) (fun _ => 0), rowW cyI (B37 0) (B37 1) (6) (fun _ => 0), rowW cyI (B50 0) (B50 1) (20) (fun _ => 0), rowW cyI (B63 0) (B63 1) (20) (fun _ => 0)]) := hD
  refine lv_aload_n hx hb dX1_init_74 rfl (lv_at hl 0 rfl) ?_
  refine lv_iconst (v := (0 : Int32)) hx hb dX1_init_75 (by decide) ?_
  refine va_put (v := .int ((0 : Int32))) (ty := .int) (C := RX1) (T := TX1) (N := 10) hx hb hts hinX1 tyX1 tyX1_ok nmX1 hown hK hP hD hS 0 rfl rfl 6 (by decide) hf36 (fun _ h9 => h9) rfl (by first | rfl | decide +kernel) rfl rfl (Nat.le_of_ble_eq_true rfl) dX1_init_76 (fun H locs hP hD hS => ?_)
  have hP : va_P G vwCl (cat [[(h0, .inr (1, [.ref (B11 0), .ref (B24 0), .ref (B37 0), .ref (B50 0), .ref (B63 0), .int ((0 : Int32)), .int ((0 : Int32)), .int (0), .int (0), .int (0)]))], rowW cyI (B11 0) (B11 1) (20) (fun _ => 0), rowW cyI (B24 0) (B24 1) (20) (fun _ => 0), rowW cyI (B37 0) (B37 1) (6) (fun _ => 0), rowW cyI (B50 0) (B50 1) (20) (fun _ => 0), rowW cyI (B63 0) (B63 1) (20) (fun _ => 0)]) H := hP
  have hD : va_D A9 (cat [[(h0, .inr (1, [.ref (B11 0), .ref (B24 0), .ref (B37 0), .ref (B50 0), .ref (B63 0), .int ((0 : Int32)), .int ((0 : Int32)), .int (0), .int (0), .int (0)]))], rowW cyI (B11 0) (B11 1) (20) (fun _ => 0), rowW cyI (B24 0) (B24 1) (20) (fun _ => 0), rowW cyI (B37 0) (B37 1) (6) (fun _ => 0), rowW cyI (B50 0) (B50 1) (20) (fun _ => 0), rowW cyI (B63 0) (B63 1) (20) (fun _ => 0)]) := hD
  refine lv_aload_n hx hb dX1_init_79 rfl (lv_at hl 0 rfl) ?_
  refine lv_iconst (v := (0 : Int32)) hx hb dX1_init_80 (by decide) ?_
  refine va_put (v := .int ((0 : Int32))) (ty := .int) (C := RX1) (T := TX1) (N := 10) hx hb hts hinX1 tyX1 tyX1_ok nmX1 hown hK hP hD hS 0 rfl rfl 7 (by decide) hf39 (fun _ h9 => h9) rfl (by first | rfl | decide +kernel) rfl rfl (Nat.le_of_ble_eq_true rfl) dX1_init_81 (fun H locs hP hD hS => ?_)
  have hP : va_P G vwCl (cat [[(h0, .inr (1, [.ref (B11 0), .ref (B24 0), .ref (B37 0), .ref (B50 0), .ref (B63 0), .int ((0 : Int32)), .int ((0 : Int32)), .int ((0 : Int32)), .int (0), .int (0)]))], rowW cyI (B11 0) (B11 1) (20) (fun _ => 0), rowW cyI (B24 0) (B24 1) (20) (fun _ => 0), rowW cyI (B37 0) (B37 1) (6) (fun _ => 0), rowW cyI (B50 0) (B50 1) (20) (fun _ => 0), rowW cyI (B63 0) (B63 1) (20) (fun _ => 0)]) H := hP
  have hD : va_D A9 (cat [[(h0, .inr (1, [.ref (B11 0), .ref (B24 0), .ref (B37 0), .ref (B50 0), .ref (B63 0), .int ((0 : Int32)), .int ((0 : Int32)), .int ((0 : Int32)), .int (0), .int (0)]))], rowW cyI (B11 0) (B11 1) (20) (fun _ => 0), rowW cyI (B24 0) (B24 1) (20) (fun _ => 0), rowW cyI (B37 0) (B37 1) (6) (fun _ => 0), rowW cyI (B50 0) (B50 1) (20) (fun _ => 0), rowW cyI (B63 0) (B63 1) (20) (fun _ => 0)]) := hD
  refine lv_aload_n hx hb dX1_init_84 rfl (lv_at hl 0 rfl) ?_
  refine lv_iconst (v := (0 : Int32)) hx hb dX1_init_85 (by decide) ?_
  refine va_put (v := .int ((0 : Int32))) (ty := .int) (C := RX1) (T := TX1) (N := 10) hx hb hts hinX1 tyX1 tyX1_ok nmX1 hown hK hP hD hS 0 rfl rfl 8 (by decide) hf42 (fun _ h9 => h9) rfl (by first | rfl | decide +kernel) rfl rfl (Nat.le_of_ble_eq_true rfl) dX1_init_86 (fun H locs hP hD hS => ?_)
  have hP : va_P G vwCl (cat [[(h0, .inr (1, [.ref (B11 0), .ref (B24 0), .ref (B37 0), .ref (B50 0), .ref (B63 0), .int ((0 : Int32)), .int ((0 : Int32)), .int ((0 : Int32)), .int ((0 : Int32)), .int (0)]))], rowW cyI (B11 0) (B11 1) (20) (fun _ => 0), rowW cyI (B24 0) (B24 1) (20) (fun _ => 0), rowW cyI (B37 0) (B37 1) (6) (fun _ => 0), rowW cyI (B50 0) (B50 1) (20) (fun _ => 0), rowW cyI (B63 0) (B63 1) (20) (fun _ => 0)]) H := hP
  have hD : va_D A9 (cat [[(h0, .inr (1, [.ref (B11 0), .ref (B24 0), .ref (B37 0), .ref (B50 0), .ref (B63 0), .int ((0 : Int32)), .int ((0 : Int32)), .int ((0 : Int32)), .int ((0 : Int32)), .int (0)]))], rowW cyI (B11 0) (B11 1) (20) (fun _ => 0), rowW cyI (B24 0) (B24 1) (20) (fun _ => 0), rowW cyI (B37 0) (B37 1) (6) (fun _ => 0), rowW cyI (B50 0) (B50 1) (20) (fun _ => 0), rowW cyI (B63 0) (B63 1) (20) (fun _ => 0)]) := hD
  refine lv_aload_n hx hb dX1_init_89 rfl (lv_at hl 0 rfl) ?_
  refine lv_iconst (v := (0 : Int32)) hx hb dX1_init_90 (by decide) ?_
  refine va_put (v := .int ((0 : Int32))) (ty := .int) (C := RX1) (T := TX1) (N := 10) hx hb hts hinX1 tyX1 tyX1_ok nmX1 hown hK hP hD hS 0 rfl rfl 9 (by decide) hf45 (fun _ h9 => h9) rfl (by first | rfl | decide +kernel) rfl rfl (Nat.le_of_ble_eq_true rfl) dX1_init_91 (fun H locs hP hD hS => ?_)
  have hP : va_P G vwCl (cat [[(h0, .inr (1, [.ref (B11 0), .ref (B24 0), .ref (B37 0), .ref (B50 0), .ref (B63 0), .int ((0 : Int32)), .int ((0 : Int32)), .int ((0 : Int32)), .int ((0 : Int32)), .int ((0 : Int32))]))], rowW cyI (B11 0) (B11 1) (20) (fun _ => 0), rowW cyI (B24 0) (B24 1) (20) (fun _ => 0), rowW cyI (B37 0) (B37 1) (6) (fun _ => 0), rowW cyI (B50 0) (B50 1) (20) (fun _ => 0), rowW cyI (B63 0) (B63 1) (20) (fun _ => 0)]) H := hP
  have hD : va_D A9 (cat [[(h0, .inr (1, [.ref (B11 0), .ref (B24 0), .ref (B37 0), .ref (B50 0), .ref (B63 0), .int ((0 : Int32)), .int ((0 : Int32)), .int ((0 : Int32)), .int ((0 : Int32)), .int ((0 : Int32))]))], rowW cyI (B11 0) (B11 1) (20) (fun _ => 0), rowW cyI (B24 0) (B24 1) (20) (fun _ => 0), rowW cyI (B37 0) (B37 1) (6) (fun _ => 0), rowW cyI (B50 0) (B50 1) (20) (fun _ => 0), rowW cyI (B63 0) (B63 1) (20) (fun _ => 0)]) := hD
  have hP : va_P G vwCl (cat [dyW cyI ((fun k => ([h0, B11 0, B24 0, B37 0, B50 0, B63 0, B11 1, B24 1, B37 1, B50 1, B63 1] : List Nat).getD k 0)) dy0]) H := hP
  have hD : va_D A9 (cat [dyW cyI ((fun k => ([h0, B11 0, B24 0, B37 0, B50 0, B63 0, B11 1, B24 1, B37 1, B50 1, B63 1] : List Nat).getD k 0)) dy0]) := hD
  exact end_n (A := (fun k => ([h0, B11 0, B24 0, B37 0, B50 0, B63 0, B11 1, B24 1, B37 1, B50 1, B63 1] : List Nat).getD k 0)) hx hb hr hlocks hK rfl hP hD hS dX1_init_94
abbrev rm_X4_init : Room := { frames := 2, cells := 12, slots := 70, locals := 41 }
set_option maxHeartbeats 4000000 in
set_option maxRecDepth 100000 in
/-- new Sharing() -/
theorem c_X4_init (l : Launch) (G : va_G) (cyI cyO : ClassId) (h0 : Nat) : CN l G (TY cyI cyO) yX4_init wsX4_init rm_X4_init [] false [.ref (h0)] [[(h0, .inr (4, [.null, .null, .null, .null, .null, .null]))]] 12 70 h0 (fun A => [shW cyI A sh0]) := by
  refine wk_N (cc := cX4_init) (maxL := 1) (ret := none) (by decide) rfl (Nat.le_of_ble_eq_true rfl) ?_
  intro p9 e9 s9 m9 b9 t9 c9 A9 ls hx hb hr hts hown hlocks hml hK hA hD hP hl hS hnm hE
  have hl : lv_has ls 1 [(0, .ref (h0))] := hl
  have hinX3 : ∀ w ∈ wsX30, w ∈ wsX4_init := by decide +kernel
  have hinX4 : ∀ w ∈ wsX40, w ∈ wsX4_init := by decide +kernel
  have hf14 := hts (.fieldLink RX4 14 "DoorstepRounds$Sharing" "plan" "LDoorstepRounds$Row;") (by decide +kernel)
  have hf20 := hts (.fieldLink RX4 20 "DoorstepRounds$Sharing" "order" "LDoorstepRounds$Row;") (by decide +kernel)
  have hf23 := hts (.fieldLink RX4 23 "DoorstepRounds$Sharing" "rounds" "LDoorstepRounds$Row;") (by decide +kernel)
  have hf26 := hts (.fieldLink RX4 26 "DoorstepRounds$Sharing" "quotas" "LDoorstepRounds$Row;") (by decide +kernel)
  have hf29 := hts (.fieldLink RX4 29 "DoorstepRounds$Sharing" "planSizes" "LDoorstepRounds$Row;") (by decide +kernel)
  have hf32 := hts (.fieldLink RX4 32 "DoorstepRounds$Sharing" "planLoads" "LDoorstepRounds$Row;") (by decide +kernel)
  refine lv_aload_n hx hb dX4_init_0 rfl (lv_at hl 0 rfl) ?_
  refine W.objInit hx hb hown (hts (.methodLink RX4 3 objectInit) (by decide +kernel)) (hts (.instanceMethod objectInit) (by decide +kernel)) (hts (.code objectInit ⟨#[0xb1]⟩ 1 none) (by decide +kernel)) rfl (by rw [hml]; exact hl.1) rfl dX4_init_1 (Nat.le_of_ble_eq_true rfl) (Nat.le_of_ble_eq_true rfl) ?_
  refine W.eq (g2 := F0 m9 4 ls []) rfl ?_
  refine lv_aload_n hx hb dX4_init_4 rfl (lv_at hl 0 rfl) ?_
  refine va_new (ci := 3) (fs := [.null]) (C := RX3) (T := TX3) (N := 1) hx hb hts (hinX3) tyX3 tyX3_ok hown (hts (.classLink RX4 9 RX3) (by decide +kernel)) (hts (.instantiable RX3 1) (by decide +kernel)) (hts (.initialized RX3) (by decide +kernel)) hK hP hD hS hA rfl nfX3 (Nat.le_of_ble_eq_true rfl) (Nat.le_of_ble_eq_true rfl) dX4_init_5 (fun q5 H hP hD hS => ?_)
  have hP : va_P G vwCl (cat [[(h0, .inr (4, [.null, .null, .null, .null, .null, .null]))], [(q5, .inr (3, [.null]))]]) H := hP
  have hD : va_D A9 (cat [[(h0, .inr (4, [.null, .null, .null, .null, .null, .null]))], [(q5, .inr (3, [.null]))]]) := hD
  refine W.cs (cells' := 1) (slots' := 1) rfl rfl ?_
  refine lv_dup hx hb dX4_init_8 rfl ?_
  refine lv_bipush (v := (20 : Int32)) hx hb dX4_init_9 (by decide) ?_
  refine gI (gs := [[(h0, .inr (4, [.null, .null, .null, .null, .null, .null]))], [(q5, .inr (3, [.null]))]]) (As := [.int ((20 : Int32))]) (rest := [.ref (q5), .ref (h0)]) ⟨hx, hb, hml, hown, hts⟩ (c_X3_init l G cyI cyO q5 20 (by omega) (by omega)) (cwI 1 hts gX4_init_X3_init rfl rfl rfl (hts (.initialized RX3) (by decide +kernel)) (hts (.methodLink RX4 11 yX3_init) (by decide +kernel)) (hts (.instanceMethod yX3_init) (by decide +kernel)) rfl (by decide +kernel) ⟨Nat.le_of_ble_eq_true rfl, Nat.le_of_ble_eq_true rfl⟩) hK (hE.sub (by simp) (by simp)) hP hD hS hA [1] rfl rfl (fun _ => rfl) rfl hl.1 rfl (Nat.le_of_ble_eq_true rfl) dX4_init_11 ⟨Nat.le_of_ble_eq_true rfl, Nat.le_of_ble_eq_true rfl⟩ (fun B11 H locs hA9 hP hD hS => ?_)
  have hP : va_P G vwCl (cat [[(h0, .inr (4, [.null, .null, .null, .null, .null, .null]))], rowW cyI (B11 0) (B11 1) (20) (fun _ => 0)]) H := hP
  have hD : va_D A9 (cat [[(h0, .inr (4, [.null, .null, .null, .null, .null, .null]))], rowW cyI (B11 0) (B11 1) (20) (fun _ => 0)]) := hD
  subst hA9
  have hP : va_P G vwCl (cat [[(h0, .inr (4, [.null, .null, .null, .null, .null, .null]))], rowW cyI (B11 0) (B11 1) (20) (fun _ => 0)]) H := hP
  have hD : va_D A9 (cat [[(h0, .inr (4, [.null, .null, .null, .null, .null, .null]))], rowW cyI (B11 0) (B11 1) (20) (fun _ => 0)]) := hD
  refine W.cs (cells' := 2) (slots' := 21) rfl rfl ?_
  refine va_putF (v := .ref (B11 0)) (ty := .object "DoorstepRounds$Row") (C := RX4) (T := TX4) (N := 6) hx hb hts hinX4 tyX4 tyX4_ok nmX4 hown hK hP hD hS 0 rfl rfl 0 (by decide) hf14 (fun _ h9 => h9) rfl hnm rfl (by first | rfl | decide +kernel) rfl rfl (Nat.le_of_ble_eq_true rfl) dX4_init_14 (fun H locs hP hD hS => ?_)
  have hP : va_P G vwCl (cat [[(h0, .inr (4, [.ref (B11 0), .null, .null, .null, .null, .null]))], rowW cyI (B11 0) (B11 1) (20) (fun _ => 0)]) H := hP
  have hD : va_D A9 (cat [[(h0, .inr (4, [.ref (B11 0), .null, .null, .null, .null, .null]))], rowW cyI (B11 0) (B11 1) (20) (fun _ => 0)]) := hD
  refine lv_aload_n hx hb dX4_init_17 rfl (lv_at hl 0 rfl) ?_
  refine va_new (ci := 3) (fs := [.null]) (C := RX3) (T := TX3) (N := 1) hx hb hts (hinX3) tyX3 tyX3_ok hown (hts (.classLink RX4 9 RX3) (by decide +kernel)) (hts (.instantiable RX3 1) (by decide +kernel)) (hts (.initialized RX3) (by decide +kernel)) hK hP hD hS hA rfl nfX3 (Nat.le_of_ble_eq_true rfl) (Nat.le_of_ble_eq_true rfl) dX4_init_18 (fun q18 H hP hD hS => ?_)
  have hP : va_P G vwCl (cat [[(h0, .inr (4, [.ref (B11 0), .null, .null, .null, .null, .null]))], rowW cyI (B11 0) (B11 1) (20) (fun _ => 0), [(q18, .inr (3, [.null]))]]) H := hP
  have hD : va_D A9 (cat [[(h0, .inr (4, [.ref (B11 0), .null, .null, .null, .null, .null]))], rowW cyI (B11 0) (B11 1) (20) (fun _ => 0), [(q18, .inr (3, [.null]))]]) := hD
  refine W.cs (cells' := 3) (slots' := 22) rfl rfl ?_
  refine lv_dup hx hb dX4_init_21 rfl ?_
  refine lv_bipush (v := (20 : Int32)) hx hb dX4_init_22 (by decide) ?_
  refine gI (gs := [[(h0, .inr (4, [.ref (B11 0), .null, .null, .null, .null, .null]))], rowW cyI (B11 0) (B11 1) (20) (fun _ => 0), [(q18, .inr (3, [.null]))]]) (As := [.int ((20 : Int32))]) (rest := [.ref (q18), .ref (h0)]) ⟨hx, hb, hml, hown, hts⟩ (c_X3_init l G cyI cyO q18 20 (by omega) (by omega)) (cwI 1 hts gX4_init_X3_init rfl rfl rfl (hts (.initialized RX3) (by decide +kernel)) (hts (.methodLink RX4 11 yX3_init) (by decide +kernel)) (hts (.instanceMethod yX3_init) (by decide +kernel)) rfl (by decide +kernel) ⟨Nat.le_of_ble_eq_true rfl, Nat.le_of_ble_eq_true rfl⟩) hK (hE.sub (by simp) (by simp)) hP hD hS hA [2] rfl rfl (fun _ => rfl) rfl hl.1 rfl (Nat.le_of_ble_eq_true rfl) dX4_init_24 ⟨Nat.le_of_ble_eq_true rfl, Nat.le_of_ble_eq_true rfl⟩ (fun B24 H locs hA9 hP hD hS => ?_)
  have hP : va_P G vwCl (cat [[(h0, .inr (4, [.ref (B11 0), .null, .null, .null, .null, .null]))], rowW cyI (B11 0) (B11 1) (20) (fun _ => 0), rowW cyI (B24 0) (B24 1) (20) (fun _ => 0)]) H := hP
  have hD : va_D A9 (cat [[(h0, .inr (4, [.ref (B11 0), .null, .null, .null, .null, .null]))], rowW cyI (B11 0) (B11 1) (20) (fun _ => 0), rowW cyI (B24 0) (B24 1) (20) (fun _ => 0)]) := hD
  subst hA9
  have hP : va_P G vwCl (cat [[(h0, .inr (4, [.ref (B11 0), .null, .null, .null, .null, .null]))], rowW cyI (B11 0) (B11 1) (20) (fun _ => 0), rowW cyI (B24 0) (B24 1) (20) (fun _ => 0)]) H := hP
  have hD : va_D A9 (cat [[(h0, .inr (4, [.ref (B11 0), .null, .null, .null, .null, .null]))], rowW cyI (B11 0) (B11 1) (20) (fun _ => 0), rowW cyI (B24 0) (B24 1) (20) (fun _ => 0)]) := hD
  refine W.cs (cells' := 4) (slots' := 42) rfl rfl ?_
  refine va_putF (v := .ref (B24 0)) (ty := .object "DoorstepRounds$Row") (C := RX4) (T := TX4) (N := 6) hx hb hts hinX4 tyX4 tyX4_ok nmX4 hown hK hP hD hS 0 rfl rfl 1 (by decide) hf20 (fun _ h9 => h9) rfl hnm rfl (by first | rfl | decide +kernel) rfl rfl (Nat.le_of_ble_eq_true rfl) dX4_init_27 (fun H locs hP hD hS => ?_)
  have hP : va_P G vwCl (cat [[(h0, .inr (4, [.ref (B11 0), .ref (B24 0), .null, .null, .null, .null]))], rowW cyI (B11 0) (B11 1) (20) (fun _ => 0), rowW cyI (B24 0) (B24 1) (20) (fun _ => 0)]) H := hP
  have hD : va_D A9 (cat [[(h0, .inr (4, [.ref (B11 0), .ref (B24 0), .null, .null, .null, .null]))], rowW cyI (B11 0) (B11 1) (20) (fun _ => 0), rowW cyI (B24 0) (B24 1) (20) (fun _ => 0)]) := hD
  refine lv_aload_n hx hb dX4_init_30 rfl (lv_at hl 0 rfl) ?_
  refine va_new (ci := 3) (fs := [.null]) (C := RX3) (T := TX3) (N := 1) hx hb hts (hinX3) tyX3 tyX3_ok hown (hts (.classLink RX4 9 RX3) (by decide +kernel)) (hts (.instantiable RX3 1) (by decide +kernel)) (hts (.initialized RX3) (by decide +kernel)) hK hP hD hS hA rfl nfX3 (Nat.le_of_ble_eq_true rfl) (Nat.le_of_ble_eq_true rfl) dX4_init_31 (fun q31 H hP hD hS => ?_)
  have hP : va_P G vwCl (cat [[(h0, .inr (4, [.ref (B11 0), .ref (B24 0), .null, .null, .null, .null]))], rowW cyI (B11 0) (B11 1) (20) (fun _ => 0), rowW cyI (B24 0) (B24 1) (20) (fun _ => 0), [(q31, .inr (3, [.null]))]]) H := hP
  have hD : va_D A9 (cat [[(h0, .inr (4, [.ref (B11 0), .ref (B24 0), .null, .null, .null, .null]))], rowW cyI (B11 0) (B11 1) (20) (fun _ => 0), rowW cyI (B24 0) (B24 1) (20) (fun _ => 0), [(q31, .inr (3, [.null]))]]) := hD
  refine W.cs (cells' := 5) (slots' := 43) rfl rfl ?_
  refine lv_dup hx hb dX4_init_34 rfl ?_
  refine lv_bipush (v := (6 : Int32)) hx hb dX4_init_35 (by decide) ?_
  refine gI (gs := [[(h0, .inr (4, [.ref (B11 0), .ref (B24 0), .null, .null, .null, .null]))], rowW cyI (B11 0) (B11 1) (20) (fun _ => 0), rowW cyI (B24 0) (B24 1) (20) (fun _ => 0), [(q31, .inr (3, [.null]))]]) (As := [.int ((6 : Int32))]) (rest := [.ref (q31), .ref (h0)]) ⟨hx, hb, hml, hown, hts⟩ (c_X3_init l G cyI cyO q31 6 (by omega) (by omega)) (cwI 1 hts gX4_init_X3_init rfl rfl rfl (hts (.initialized RX3) (by decide +kernel)) (hts (.methodLink RX4 11 yX3_init) (by decide +kernel)) (hts (.instanceMethod yX3_init) (by decide +kernel)) rfl (by decide +kernel) ⟨Nat.le_of_ble_eq_true rfl, Nat.le_of_ble_eq_true rfl⟩) hK (hE.sub (by simp) (by simp)) hP hD hS hA [3] rfl rfl (fun _ => rfl) rfl hl.1 rfl (Nat.le_of_ble_eq_true rfl) dX4_init_37 ⟨Nat.le_of_ble_eq_true rfl, Nat.le_of_ble_eq_true rfl⟩ (fun B37 H locs hA9 hP hD hS => ?_)
  have hP : va_P G vwCl (cat [[(h0, .inr (4, [.ref (B11 0), .ref (B24 0), .null, .null, .null, .null]))], rowW cyI (B11 0) (B11 1) (20) (fun _ => 0), rowW cyI (B24 0) (B24 1) (20) (fun _ => 0), rowW cyI (B37 0) (B37 1) (6) (fun _ => 0)]) H := hP
  have hD : va_D A9 (cat [[(h0, .inr (4, [.ref (B11 0), .ref (B24 0), .null, .null, .null, .null]))], rowW cyI (B11 0) (B11 1) (20) (fun _ => 0), rowW cyI (B24 0) (B24 1) (20) (fun _ => 0), rowW cyI (B37 0) (B37 1) (6) (fun _ => 0)]) := hD
  subst hA9
  have hP : va_P G vwCl (cat [[(h0, .inr (4, [.ref (B11 0), .ref (B24 0), .null, .null, .null, .null]))], rowW cyI (B11 0) (B11 1) (20) (fun _ => 0), rowW cyI (B24 0) (B24 1) (20) (fun _ => 0), rowW cyI (B37 0) (B37 1) (6) (fun _ => 0)]) H := hP
  have hD : va_D A9 (cat [[(h0, .inr (4, [.ref (B11 0), .ref (B24 0), .null, .null, .null, .null]))], rowW cyI (B11 0) (B11 1) (20) (fun _ => 0), rowW cyI (B24 0) (B24 1) (20) (fun _ => 0), rowW cyI (B37 0) (B37 1) (6) (fun _ => 0)]) := hD
  refine W.cs (cells' := 6) (slots' := 49) rfl rfl ?_
  refine va_putF (v := .ref (B37 0)) (ty := .object "DoorstepRounds$Row") (C := RX4) (T := TX4) (N := 6) hx hb hts hinX4 tyX4 tyX4_ok nmX4 hown hK hP hD hS 0 rfl rfl 2 (by decide) hf23 (fun _ h9 => h9) rfl hnm rfl (by first | rfl | decide +kernel) rfl rfl (Nat.le_of_ble_eq_true rfl) dX4_init_40 (fun H locs hP hD hS => ?_)
  have hP : va_P G vwCl (cat [[(h0, .inr (4, [.ref (B11 0), .ref (B24 0), .ref (B37 0), .null, .null, .null]))], rowW cyI (B11 0) (B11 1) (20) (fun _ => 0), rowW cyI (B24 0) (B24 1) (20) (fun _ => 0), rowW cyI (B37 0) (B37 1) (6) (fun _ => 0)]) H := hP
  have hD : va_D A9 (cat [[(h0, .inr (4, [.ref (B11 0), .ref (B24 0), .ref (B37 0), .null, .null, .null]))], rowW cyI (B11 0) (B11 1) (20) (fun _ => 0), rowW cyI (B24 0) (B24 1) (20) (fun _ => 0), rowW cyI (B37 0) (B37 1) (6) (fun _ => 0)]) := hD
  refine lv_aload_n hx hb dX4_init_43 rfl (lv_at hl 0 rfl) ?_
  refine va_new (ci := 3) (fs := [.null]) (C := RX3) (T := TX3) (N := 1) hx hb hts (hinX3) tyX3 tyX3_ok hown (hts (.classLink RX4 9 RX3) (by decide +kernel)) (hts (.instantiable RX3 1) (by decide +kernel)) (hts (.initialized RX3) (by decide +kernel)) hK hP hD hS hA rfl nfX3 (Nat.le_of_ble_eq_true rfl) (Nat.le_of_ble_eq_true rfl) dX4_init_44 (fun q44 H hP hD hS => ?_)
  have hP : va_P G vwCl (cat [[(h0, .inr (4, [.ref (B11 0), .ref (B24 0), .ref (B37 0), .null, .null, .null]))], rowW cyI (B11 0) (B11 1) (20) (fun _ => 0), rowW cyI (B24 0) (B24 1) (20) (fun _ => 0), rowW cyI (B37 0) (B37 1) (6) (fun _ => 0), [(q44, .inr (3, [.null]))]]) H := hP
  have hD : va_D A9 (cat [[(h0, .inr (4, [.ref (B11 0), .ref (B24 0), .ref (B37 0), .null, .null, .null]))], rowW cyI (B11 0) (B11 1) (20) (fun _ => 0), rowW cyI (B24 0) (B24 1) (20) (fun _ => 0), rowW cyI (B37 0) (B37 1) (6) (fun _ => 0), [(q44, .inr (3, [.null]))]]) := hD
  refine W.cs (cells' := 7) (slots' := 50) rfl rfl ?_
  refine lv_dup hx hb dX4_init_47 rfl ?_
  refine lv_bipush (v := (6 : Int32)) hx hb dX4_init_48 (by decide) ?_
  refine gI (gs := [[(h0, .inr (4, [.ref (B11 0), .ref (B24 0), .ref (B37 0), .null, .null, .null]))], rowW cyI (B11 0) (B11 1) (20) (fun _ => 0), rowW cyI (B24 0) (B24 1) (20) (fun _ => 0), rowW cyI (B37 0) (B37 1) (6) (fun _ => 0), [(q44, .inr (3, [.null]))]]) (As := [.int ((6 : Int32))]) (rest := [.ref (q44), .ref (h0)]) ⟨hx, hb, hml, hown, hts⟩ (c_X3_init l G cyI cyO q44 6 (by omega) (by omega)) (cwI 1 hts gX4_init_X3_init rfl rfl rfl (hts (.initialized RX3) (by decide +kernel)) (hts (.methodLink RX4 11 yX3_init) (by decide +kernel)) (hts (.instanceMethod yX3_init) (by decide +kernel)) rfl (by decide +kernel) ⟨Nat.le_of_ble_eq_true rfl, Nat.le_of_ble_eq_true rfl⟩) hK (hE.sub (by simp) (by simp)) hP hD hS hA [4] rfl rfl (fun _ => rfl) rfl hl.1 rfl (Nat.le_of_ble_eq_true rfl) dX4_init_50 ⟨Nat.le_of_ble_eq_true rfl, Nat.le_of_ble_eq_true rfl⟩ (fun B50 H locs hA9 hP hD hS => ?_)
  have hP : va_P G vwCl (cat [[(h0, .inr (4, [.ref (B11 0), .ref (B24 0), .ref (B37 0), .null, .null, .null]))], rowW cyI (B11 0) (B11 1) (20) (fun _ => 0), rowW cyI (B24 0) (B24 1) (20) (fun _ => 0), rowW cyI (B37 0) (B37 1) (6) (fun _ => 0), rowW cyI (B50 0) (B50 1) (6) (fun _ => 0)]) H := hP
  have hD : va_D A9 (cat [[(h0, .inr (4, [.ref (B11 0), .ref (B24 0), .ref (B37 0), .null, .null, .null]))], rowW cyI (B11 0) (B11 1) (20) (fun _ => 0), rowW cyI (B24 0) (B24 1) (20) (fun _ => 0), rowW cyI (B37 0) (B37 1) (6) (fun _ => 0), rowW cyI (B50 0) (B50 1) (6) (fun _ => 0)]) := hD
  subst hA9
  have hP : va_P G vwCl (cat [[(h0, .inr (4, [.ref (B11 0), .ref (B24 0), .ref (B37 0), .null, .null, .null]))], rowW cyI (B11 0) (B11 1) (20) (fun _ => 0), rowW cyI (B24 0) (B24 1) (20) (fun _ => 0), rowW cyI (B37 0) (B37 1) (6) (fun _ => 0), rowW cyI (B50 0) (B50 1) (6) (fun _ => 0)]) H := hP
  have hD : va_D A9 (cat [[(h0, .inr (4, [.ref (B11 0), .ref (B24 0), .ref (B37 0), .null, .null, .null]))], rowW cyI (B11 0) (B11 1) (20) (fun _ => 0), rowW cyI (B24 0) (B24 1) (20) (fun _ => 0), rowW cyI (B37 0) (B37 1) (6) (fun _ => 0), rowW cyI (B50 0) (B50 1) (6) (fun _ => 0)]) := hD
  refine W.cs (cells' := 8) (slots' := 56) rfl rfl ?_
  refine va_putF (v := .ref (B50 0)) (ty := .object "DoorstepRounds$Row") (C := RX4) (T := TX4) (N := 6) hx hb hts hinX4 tyX4 tyX4_ok nmX4 hown hK hP hD hS 0 rfl rfl 3 (by decide) hf26 (fun _ h9 => h9) rfl hnm rfl (by first | rfl | decide +kernel) rfl rfl (Nat.le_of_ble_eq_true rfl) dX4_init_53 (fun H locs hP hD hS => ?_)
  have hP : va_P G vwCl (cat [[(h0, .inr (4, [.ref (B11 0), .ref (B24 0), .ref (B37 0), .ref (B50 0), .null, .null]))], rowW cyI (B11 0) (B11 1) (20) (fun _ => 0), rowW cyI (B24 0) (B24 1) (20) (fun _ => 0), rowW cyI (B37 0) (B37 1) (6) (fun _ => 0), rowW cyI (B50 0) (B50 1) (6) (fun _ => 0)]) H := hP
  have hD : va_D A9 (cat [[(h0, .inr (4, [.ref (B11 0), .ref (B24 0), .ref (B37 0), .ref (B50 0), .null, .null]))], rowW cyI (B11 0) (B11 1) (20) (fun _ => 0), rowW cyI (B24 0) (B24 1) (20) (fun _ => 0), rowW cyI (B37 0) (B37 1) (6) (fun _ => 0), rowW cyI (B50 0) (B50 1) (6) (fun _ => 0)]) := hD
  refine lv_aload_n hx hb dX4_init_56 rfl (lv_at hl 0 rfl) ?_
  refine va_new (ci := 3) (fs := [.null]) (C := RX3) (T := TX3) (N := 1) hx hb hts (hinX3) tyX3 tyX3_ok hown (hts (.classLink RX4 9 RX3) (by decide +kernel)) (hts (.instantiable RX3 1) (by decide +kernel)) (hts (.initialized RX3) (by decide +kernel)) hK hP hD hS hA rfl nfX3 (Nat.le_of_ble_eq_true rfl) (Nat.le_of_ble_eq_true rfl) dX4_init_57 (fun q57 H hP hD hS => ?_)
  have hP : va_P G vwCl (cat [[(h0, .inr (4, [.ref (B11 0), .ref (B24 0), .ref (B37 0), .ref (B50 0), .null, .null]))], rowW cyI (B11 0) (B11 1) (20) (fun _ => 0), rowW cyI (B24 0) (B24 1) (20) (fun _ => 0), rowW cyI (B37 0) (B37 1) (6) (fun _ => 0), rowW cyI (B50 0) (B50 1) (6) (fun _ => 0), [(q57, .inr (3, [.null]))]]) H := hP
  have hD : va_D A9 (cat [[(h0, .inr (4, [.ref (B11 0), .ref (B24 0), .ref (B37 0), .ref (B50 0), .null, .null]))], rowW cyI (B11 0) (B11 1) (20) (fun _ => 0), rowW cyI (B24 0) (B24 1) (20) (fun _ => 0), rowW cyI (B37 0) (B37 1) (6) (fun _ => 0), rowW cyI (B50 0) (B50 1) (6) (fun _ => 0), [(q57, .inr (3, [.null]))]]) := hD
  refine W.cs (cells' := 9) (slots' := 57) rfl rfl ?_
  refine lv_dup hx hb dX4_init_60 rfl ?_
  refine lv_bipush (v := (6 : Int32)) hx hb dX4_init_61 (by decide) ?_
  refine gI (gs := [[(h0, .inr (4, [.ref (B11 0), .ref (B24 0), .ref (B37 0), .ref (B50 0), .null, .null]))], rowW cyI (B11 0) (B11 1) (20) (fun _ => 0), rowW cyI (B24 0) (B24 1) (20) (fun _ => 0), rowW cyI (B37 0) (B37 1) (6) (fun _ => 0), rowW cyI (B50 0) (B50 1) (6) (fun _ => 0), [(q57, .inr (3, [.null]))]]) (As := [.int ((6 : Int32))]) (rest := [.ref (q57), .ref (h0)]) ⟨hx, hb, hml, hown, hts⟩ (c_X3_init l G cyI cyO q57 6 (by omega) (by omega)) (cwI 1 hts gX4_init_X3_init rfl rfl rfl (hts (.initialized RX3) (by decide +kernel)) (hts (.methodLink RX4 11 yX3_init) (by decide +kernel)) (hts (.instanceMethod yX3_init) (by decide +kernel)) rfl (by decide +kernel) ⟨Nat.le_of_ble_eq_true rfl, Nat.le_of_ble_eq_true rfl⟩) hK (hE.sub (by simp) (by simp)) hP hD hS hA [5] rfl rfl (fun _ => rfl) rfl hl.1 rfl (Nat.le_of_ble_eq_true rfl) dX4_init_63 ⟨Nat.le_of_ble_eq_true rfl, Nat.le_of_ble_eq_true rfl⟩ (fun B63 H locs hA9 hP hD hS => ?_)
  have hP : va_P G vwCl (cat [[(h0, .inr (4, [.ref (B11 0), .ref (B24 0), .ref (B37 0), .ref (B50 0), .null, .null]))], rowW cyI (B11 0) (B11 1) (20) (fun _ => 0), rowW cyI (B24 0) (B24 1) (20) (fun _ => 0), rowW cyI (B37 0) (B37 1) (6) (fun _ => 0), rowW cyI (B50 0) (B50 1) (6) (fun _ => 0), rowW cyI (B63 0) (B63 1) (6) (fun _ => 0)]) H := hP
  have hD : va_D A9 (cat [[(h0, .inr (4, [.ref (B11 0), .ref (B24 0), .ref (B37 0), .ref (B50 0), .null, .null]))], rowW cyI (B11 0) (B11 1) (20) (fun _ => 0), rowW cyI (B24 0) (B24 1) (20) (fun _ => 0), rowW cyI (B37 0) (B37 1) (6) (fun _ => 0), rowW cyI (B50 0) (B50 1) (6) (fun _ => 0), rowW cyI (B63 0) (B63 1) (6) (fun _ => 0)]) := hD
  subst hA9
  have hP : va_P G vwCl (cat [[(h0, .inr (4, [.ref (B11 0), .ref (B24 0), .ref (B37 0), .ref (B50 0), .null, .null]))], rowW cyI (B11 0) (B11 1) (20) (fun _ => 0), rowW cyI (B24 0) (B24 1) (20) (fun _ => 0), rowW cyI (B37 0) (B37 1) (6) (fun _ => 0), rowW cyI (B50 0) (B50 1) (6) (fun _ => 0), rowW cyI (B63 0) (B63 1) (6) (fun _ => 0)]) H := hP
  have hD : va_D A9 (cat [[(h0, .inr (4, [.ref (B11 0), .ref (B24 0), .ref (B37 0), .ref (B50 0), .null, .null]))], rowW cyI (B11 0) (B11 1) (20) (fun _ => 0), rowW cyI (B24 0) (B24 1) (20) (fun _ => 0), rowW cyI (B37 0) (B37 1) (6) (fun _ => 0), rowW cyI (B50 0) (B50 1) (6) (fun _ => 0), rowW cyI (B63 0) (B63 1) (6) (fun _ => 0)]) := hD
  refine W.cs (cells' := 10) (slots' := 63) rfl rfl ?_
  refine va_putF (v := .ref (B63 0)) (ty := .object "DoorstepRounds$Row") (C := RX4) (T := TX4) (N := 6) hx hb hts hinX4 tyX4 tyX4_ok nmX4 hown hK hP hD hS 0 rfl rfl 4 (by decide) hf29 (fun _ h9 => h9) rfl hnm rfl (by first | rfl | decide +kernel) rfl rfl (Nat.le_of_ble_eq_true rfl) dX4_init_66 (fun H locs hP hD hS => ?_)
  have hP : va_P G vwCl (cat [[(h0, .inr (4, [.ref (B11 0), .ref (B24 0), .ref (B37 0), .ref (B50 0), .ref (B63 0), .null]))], rowW cyI (B11 0) (B11 1) (20) (fun _ => 0), rowW cyI (B24 0) (B24 1) (20) (fun _ => 0), rowW cyI (B37 0) (B37 1) (6) (fun _ => 0), rowW cyI (B50 0) (B50 1) (6) (fun _ => 0), rowW cyI (B63 0) (B63 1) (6) (fun _ => 0)]) H := hP
  have hD : va_D A9 (cat [[(h0, .inr (4, [.ref (B11 0), .ref (B24 0), .ref (B37 0), .ref (B50 0), .ref (B63 0), .null]))], rowW cyI (B11 0) (B11 1) (20) (fun _ => 0), rowW cyI (B24 0) (B24 1) (20) (fun _ => 0), rowW cyI (B37 0) (B37 1) (6) (fun _ => 0), rowW cyI (B50 0) (B50 1) (6) (fun _ => 0), rowW cyI (B63 0) (B63 1) (6) (fun _ => 0)]) := hD
  refine lv_aload_n hx hb dX4_init_69 rfl (lv_at hl 0 rfl) ?_
  refine va_new (ci := 3) (fs := [.null]) (C := RX3) (T := TX3) (N := 1) hx hb hts (hinX3) tyX3 tyX3_ok hown (hts (.classLink RX4 9 RX3) (by decide +kernel)) (hts (.instantiable RX3 1) (by decide +kernel)) (hts (.initialized RX3) (by decide +kernel)) hK hP hD hS hA rfl nfX3 (Nat.le_of_ble_eq_true rfl) (Nat.le_of_ble_eq_true rfl) dX4_init_70 (fun q70 H hP hD hS => ?_)
  have hP : va_P G vwCl (cat [[(h0, .inr (4, [.ref (B11 0), .ref (B24 0), .ref (B37 0), .ref (B50 0), .ref (B63 0), .null]))], rowW cyI (B11 0) (B11 1) (20) (fun _ => 0), rowW cyI (B24 0) (B24 1) (20) (fun _ => 0), rowW cyI (B37 0) (B37 1) (6) (fun _ => 0), rowW cyI (B50 0) (B50 1) (6) (fun _ => 0), rowW cyI (B63 0) (B63 1) (6) (fun _ => 0), [(q70, .inr (3, [.null]))]]) H := hP
  have hD : va_D A9 (cat [[(h0, .inr (4, [.ref (B11 0), .ref (B24 0), .ref (B37 0), .ref (B50 0), .ref (B63 0), .null]))], rowW cyI (B11 0) (B11 1) (20) (fun _ => 0), rowW cyI (B24 0) (B24 1) (20) (fun _ => 0), rowW cyI (B37 0) (B37 1) (6) (fun _ => 0), rowW cyI (B50 0) (B50 1) (6) (fun _ => 0), rowW cyI (B63 0) (B63 1) (6) (fun _ => 0), [(q70, .inr (3, [.null]))]]) := hD
  refine W.cs (cells' := 11) (slots' := 64) rfl rfl ?_
  refine lv_dup hx hb dX4_init_73 rfl ?_
  refine lv_bipush (v := (6 : Int32)) hx hb dX4_init_74 (by decide) ?_
  refine gI (gs := [[(h0, .inr (4, [.ref (B11 0), .ref (B24 0), .ref (B37 0), .ref (B50 0), .ref (B63 0), .null]))], rowW cyI (B11 0) (B11 1) (20) (fun _ => 0), rowW cyI (B24 0) (B24 1) (20) (fun _ => 0), rowW cyI (B37 0) (B37 1) (6) (fun _ => 0), rowW cyI (B50 0) (B50 1) (6) (fun _ => 0), rowW cyI (B63 0) (B63 1) (6) (fun _ => 0), [(q70, .inr (3, [.null]))]]) (As := [.int ((6 : Int32))]) (rest := [.ref (q70), .ref (h0)]) ⟨hx, hb, hml, hown, hts⟩ (c_X3_init l G cyI cyO q70 6 (by omega) (by omega)) (cwI 1 hts gX4_init_X3_init rfl rfl rfl (hts (.initialized RX3) (by decide +kernel)) (hts (.methodLink RX4 11 yX3_init) (by decide +kernel)) (hts (.instanceMethod yX3_init) (by decide +kernel)) rfl (by decide +kernel) ⟨Nat.le_of_ble_eq_true rfl, Nat.le_of_ble_eq_true rfl⟩) hK (hE.sub (by simp) (by simp)) hP hD hS hA [6] rfl rfl (fun _ => rfl) rfl hl.1 rfl (Nat.le_of_ble_eq_true rfl) dX4_init_76 ⟨Nat.le_of_ble_eq_true rfl, Nat.le_of_ble_eq_true rfl⟩ (fun B76 H locs hA9 hP hD hS => ?_)
  have hP : va_P G vwCl (cat [[(h0, .inr (4, [.ref (B11 0), .ref (B24 0), .ref (B37 0), .ref (B50 0), .ref (B63 0), .null]))], rowW cyI (B11 0) (B11 1) (20) (fun _ => 0), rowW cyI (B24 0) (B24 1) (20) (fun _ => 0), rowW cyI (B37 0) (B37 1) (6) (fun _ => 0), rowW cyI (B50 0) (B50 1) (6) (fun _ => 0), rowW cyI (B63 0) (B63 1) (6) (fun _ => 0), rowW cyI (B76 0) (B76 1) (6) (fun _ => 0)]) H := hP
  have hD : va_D A9 (cat [[(h0, .inr (4, [.ref (B11 0), .ref (B24 0), .ref (B37 0), .ref (B50 0), .ref (B63 0), .null]))], rowW cyI (B11 0) (B11 1) (20) (fun _ => 0), rowW cyI (B24 0) (B24 1) (20) (fun _ => 0), rowW cyI (B37 0) (B37 1) (6) (fun _ => 0), rowW cyI (B50 0) (B50 1) (6) (fun _ => 0), rowW cyI (B63 0) (B63 1) (6) (fun _ => 0), rowW cyI (B76 0) (B76 1) (6) (fun _ => 0)]) := hD
  subst hA9
  have hP : va_P G vwCl (cat [[(h0, .inr (4, [.ref (B11 0), .ref (B24 0), .ref (B37 0), .ref (B50 0), .ref (B63 0), .null]))], rowW cyI (B11 0) (B11 1) (20) (fun _ => 0), rowW cyI (B24 0) (B24 1) (20) (fun _ => 0), rowW cyI (B37 0) (B37 1) (6) (fun _ => 0), rowW cyI (B50 0) (B50 1) (6) (fun _ => 0), rowW cyI (B63 0) (B63 1) (6) (fun _ => 0), rowW cyI (B76 0) (B76 1) (6) (fun _ => 0)]) H := hP
  have hD : va_D A9 (cat [[(h0, .inr (4, [.ref (B11 0), .ref (B24 0), .ref (B37 0), .ref (B50 0), .ref (B63 0), .null]))], rowW cyI (B11 0) (B11 1) (20) (fun _ => 0), rowW cyI (B24 0) (B24 1) (20) (fun _ => 0), rowW cyI (B37 0) (B37 1) (6) (fun _ => 0), rowW cyI (B50 0) (B50 1) (6) (fun _ => 0), rowW cyI (B63 0) (B63 1) (6) (fun _ => 0), rowW cyI (B76 0) (B76 1) (6) (fun _ => 0)]) := hD
  refine W.cs (cells' := 12) (slots' := 70) rfl rfl ?_
  refine va_putF (v := .ref (B76 0)) (ty := .object "DoorstepRounds$Row") (C := RX4) (T := TX4) (N := 6) hx hb hts hinX4 tyX4 tyX4_ok nmX4 hown hK hP hD hS 0 rfl rfl 5 (by decide) hf32 (fun _ h9 => h9) rfl hnm rfl (by first | rfl | decide +kernel) rfl rfl (Nat.le_of_ble_eq_true rfl) dX4_init_79 (fun H locs hP hD hS => ?_)
  have hP : va_P G vwCl (cat [[(h0, .inr (4, [.ref (B11 0), .ref (B24 0), .ref (B37 0), .ref (B50 0), .ref (B63 0), .ref (B76 0)]))], rowW cyI (B11 0) (B11 1) (20) (fun _ => 0), rowW cyI (B24 0) (B24 1) (20) (fun _ => 0), rowW cyI (B37 0) (B37 1) (6) (fun _ => 0), rowW cyI (B50 0) (B50 1) (6) (fun _ => 0), rowW cyI (B63 0) (B63 1) (6) (fun _ => 0), rowW cyI (B76 0) (B76 1) (6) (fun _ => 0)]) H := hP
  have hD : va_D A9 (cat [[(h0, .inr (4, [.ref (B11 0), .ref (B24 0), .ref (B37 0), .ref (B50 0), .ref (B63 0), .ref (B76 0)]))], rowW cyI (B11 0) (B11 1) (20) (fun _ => 0), rowW cyI (B24 0) (B24 1) (20) (fun _ => 0), rowW cyI (B37 0) (B37 1) (6) (fun _ => 0), rowW cyI (B50 0) (B50 1) (6) (fun _ => 0), rowW cyI (B63 0) (B63 1) (6) (fun _ => 0), rowW cyI (B76 0) (B76 1) (6) (fun _ => 0)]) := hD
  have hP : va_P G vwCl (cat [shW cyI ((fun k => ([h0, B11 0, B24 0, B37 0, B50 0, B63 0, B76 0, B11 1, B24 1, B37 1, B50 1, B63 1, B76 1] : List Nat).getD k 0)) sh0]) H := hP
  have hD : va_D A9 (cat [shW cyI ((fun k => ([h0, B11 0, B24 0, B37 0, B50 0, B63 0, B76 0, B11 1, B24 1, B37 1, B50 1, B63 1, B76 1] : List Nat).getD k 0)) sh0]) := hD
  exact end_n (A := (fun k => ([h0, B11 0, B24 0, B37 0, B50 0, B63 0, B76 0, B11 1, B24 1, B37 1, B50 1, B63 1, B76 1] : List Nat).getD k 0)) hx hb hr hlocks hK rfl hP hD hS dX4_init_82
abbrev rm_X0_init : Room := { frames := 2, cells := 2, slots := 61, locals := 41 }
set_option maxHeartbeats 4000000 in
set_option maxRecDepth 100000 in
/-- new ChangeText() -/
theorem c_X0_init (l : Launch) (G : va_G) (cyI cyO : ClassId) (h0 : Nat) : CN l G (TY cyI cyO) yX0_init wsX0_init rm_X0_init [] false [.ref (h0)] [[(h0, .inr (0, [.null, .int (0)]))]] 2 61 h0 (fun A => [ctW cyI A ct0]) := by
  refine wk_N (cc := cX0_init) (maxL := 1) (ret := none) (by decide) rfl (Nat.le_of_ble_eq_true rfl) ?_
  intro p9 e9 s9 m9 b9 t9 c9 A9 ls hx hb hr hts hown hlocks hml hK hA hD hP hl hS hnm hE
  have hl : lv_has ls 1 [(0, .ref (h0))] := hl
  have hinX0 : ∀ w ∈ wsX00, w ∈ wsX0_init := by decide +kernel
  have hinX3 : ∀ w ∈ wsX30, w ∈ wsX0_init := by decide +kernel
  have hf14 := hts (.fieldLink RX0 14 "DoorstepRounds$ChangeText" "codes" "LDoorstepRounds$Row;") (by decide +kernel)
  have hf20 := hts (.fieldLink RX0 20 "DoorstepRounds$ChangeText" "length" "I") (by decide +kernel)
  refine lv_aload_n hx hb dX0_init_0 rfl (lv_at hl 0 rfl) ?_
  refine W.objInit hx hb hown (hts (.methodLink RX0 3 objectInit) (by decide +kernel)) (hts (.instanceMethod objectInit) (by decide +kernel)) (hts (.code objectInit ⟨#[0xb1]⟩ 1 none) (by decide +kernel)) rfl (by rw [hml]; exact hl.1) rfl dX0_init_1 (Nat.le_of_ble_eq_true rfl) (Nat.le_of_ble_eq_true rfl) ?_
  refine W.eq (g2 := F0 m9 4 ls []) rfl ?_
  refine lv_aload_n hx hb dX0_init_4 rfl (lv_at hl 0 rfl) ?_
  refine va_new (ci := 3) (fs := [.null]) (C := RX3) (T := TX3) (N := 1) hx hb hts (hinX3) tyX3 tyX3_ok hown (hts (.classLink RX0 9 RX3) (by decide +kernel)) (hts (.instantiable RX3 1) (by decide +kernel)) (hts (.initialized RX3) (by decide +kernel)) hK hP hD hS hA rfl nfX3 (Nat.le_of_ble_eq_true rfl) (Nat.le_of_ble_eq_true rfl) dX0_init_5 (fun q5 H hP hD hS => ?_)
  have hP : va_P G vwCl (cat [[(h0, .inr (0, [.null, .int (0)]))], [(q5, .inr (3, [.null]))]]) H := hP
  have hD : va_D A9 (cat [[(h0, .inr (0, [.null, .int (0)]))], [(q5, .inr (3, [.null]))]]) := hD
  refine W.cs (cells' := 1) (slots' := 1) rfl rfl ?_
  refine lv_dup hx hb dX0_init_8 rfl ?_
  refine lv_bipush (v := (60 : Int32)) hx hb dX0_init_9 (by decide) ?_
  refine gI (gs := [[(h0, .inr (0, [.null, .int (0)]))], [(q5, .inr (3, [.null]))]]) (As := [.int ((60 : Int32))]) (rest := [.ref (q5), .ref (h0)]) ⟨hx, hb, hml, hown, hts⟩ (c_X3_init l G cyI cyO q5 60 (by omega) (by omega)) (cwI 1 hts gX0_init_X3_init rfl rfl rfl (hts (.initialized RX3) (by decide +kernel)) (hts (.methodLink RX0 11 yX3_init) (by decide +kernel)) (hts (.instanceMethod yX3_init) (by decide +kernel)) rfl (by decide +kernel) ⟨Nat.le_of_ble_eq_true rfl, Nat.le_of_ble_eq_true rfl⟩) hK (hE.sub (by simp) (by simp)) hP hD hS hA [1] rfl rfl (fun _ => rfl) rfl hl.1 rfl (Nat.le_of_ble_eq_true rfl) dX0_init_11 ⟨Nat.le_of_ble_eq_true rfl, Nat.le_of_ble_eq_true rfl⟩ (fun B11 H locs hA9 hP hD hS => ?_)
  have hP : va_P G vwCl (cat [[(h0, .inr (0, [.null, .int (0)]))], rowW cyI (B11 0) (B11 1) (60) (fun _ => 0)]) H := hP
  have hD : va_D A9 (cat [[(h0, .inr (0, [.null, .int (0)]))], rowW cyI (B11 0) (B11 1) (60) (fun _ => 0)]) := hD
  subst hA9
  have hP : va_P G vwCl (cat [[(h0, .inr (0, [.null, .int (0)]))], rowW cyI (B11 0) (B11 1) (60) (fun _ => 0)]) H := hP
  have hD : va_D A9 (cat [[(h0, .inr (0, [.null, .int (0)]))], rowW cyI (B11 0) (B11 1) (60) (fun _ => 0)]) := hD
  refine W.cs (cells' := 2) (slots' := 61) rfl rfl ?_
  refine va_putF (v := .ref (B11 0)) (ty := .object "DoorstepRounds$Row") (C := RX0) (T := TX0) (N := 2) hx hb hts hinX0 tyX0 tyX0_ok nmX0 hown hK hP hD hS 0 rfl rfl 0 (by decide) hf14 (fun _ h9 => h9) rfl hnm rfl (by first | rfl | decide +kernel) rfl rfl (Nat.le_of_ble_eq_true rfl) dX0_init_14 (fun H locs hP hD hS => ?_)
  have hP : va_P G vwCl (cat [[(h0, .inr (0, [.ref (B11 0), .int (0)]))], rowW cyI (B11 0) (B11 1) (60) (fun _ => 0)]) H := hP
  have hD : va_D A9 (cat [[(h0, .inr (0, [.ref (B11 0), .int (0)]))], rowW cyI (B11 0) (B11 1) (60) (fun _ => 0)]) := hD
  refine lv_aload_n hx hb dX0_init_17 rfl (lv_at hl 0 rfl) ?_
  refine lv_iconst (v := (0 : Int32)) hx hb dX0_init_18 (by decide) ?_
  refine va_put (v := .int ((0 : Int32))) (ty := .int) (C := RX0) (T := TX0) (N := 2) hx hb hts hinX0 tyX0 tyX0_ok nmX0 hown hK hP hD hS 0 rfl rfl 1 (by decide) hf20 (fun _ h9 => h9) rfl (by first | rfl | decide +kernel) rfl rfl (Nat.le_of_ble_eq_true rfl) dX0_init_19 (fun H locs hP hD hS => ?_)
  have hP : va_P G vwCl (cat [[(h0, .inr (0, [.ref (B11 0), .int ((0 : Int32))]))], rowW cyI (B11 0) (B11 1) (60) (fun _ => 0)]) H := hP
  have hD : va_D A9 (cat [[(h0, .inr (0, [.ref (B11 0), .int ((0 : Int32))]))], rowW cyI (B11 0) (B11 1) (60) (fun _ => 0)]) := hD
  have hP : va_P G vwCl (cat [ctW cyI ((fun k => ([h0, B11 0, B11 1] : List Nat).getD k 0)) ct0]) H := hP
  have hD : va_D A9 (cat [ctW cyI ((fun k => ([h0, B11 0, B11 1] : List Nat).getD k 0)) ct0]) := hD
  exact end_n (A := (fun k => ([h0, B11 0, B11 1] : List Nat).getD k 0)) hx hb hr hlocks hK rfl hP hD hS dX0_init_22

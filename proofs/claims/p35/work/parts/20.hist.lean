/-! ===== DoorstepRounds$History ===== -/
abbrev CR (l : Launch) (D : va_G) (tys : List (ClassId × FieldType)) (y : MethodName) (ws : List Cond) (rm : Room) (av : List Value) (gi : List va_W) (R0 : Nat) (go : List va_W) : Prop :=
  ∀ sz : Nat, Met l y ws rm (cPre D tys av gi sz) (va_Qr (fun (_ : Unit) => True) (fun _ ra t => ra = R0 ∧ cB D tys (va_A (cat gi) sz) go t) (va_A (cat gi) sz)) 0 0 (va_A (cat gi) sz)
section RF
variable {l : Launch} {D : va_G} {tys : List (ClassId × FieldType)} {y : MethodName} {ws ws' : List Cond} {rm : Room} {av : List Value} {gi go : List va_W} {cc : ByteArray} {maxL : Nat} {ret : Option FieldType}
theorem wk_R {R0 : Nat} (hy : plainName y.cls = true) (hw : ws = Cond.code y cc maxL ret :: ws') (hlen : (lg_sl av).length ≤ maxL)
    (body : wkBody l D tys y ws rm av gi cc maxL ret (fun A => va_Qr (fun (_ : Unit) => True) (fun _ ra t => ra = R0 ∧ cB D tys A go t) A) 0 0) : CR l D tys y ws rm av gi R0 go := wk_of (Qa := fun A => va_Qr (fun (_ : Unit) => True) (fun _ ra t => ra = R0 ∧ cB D tys A go t) A) hy hw hlen body
end RF
section RF2
variable {p : Program} {l : Launch} {e : Env} {R : Room} {s : State} {m : MethodId} {args : Array Value} {below : List Frame} {meth : Method} {c : Code} {H : Heap} {locs : List Loc} {cells slots : Nat} {Q : State → Prop}
variable {pc : Nat} {ls : Array Slot} {st0 rest As fs : List Value} {A0 : Nat → Prop} {D : va_G} {tys : List (ClassId × FieldType)} {y : MethodName} {ws Ts : List Cond} {rm : Room} {gs gi go : List va_W} {cc bytes : ByteArray} {maxL nL n index : Nat} {ret : Option FieldType} {own C : String} {b : Addr} {T : u_T} {N : Nat}
theorem gVr {R0 : Nat} (fix : CallFix p m c cc nL s args Ts own) (hM : CR l D tys y ws rm (.ref b :: As) gi R0 go) (cw : CallW R s args own C index y bytes maxL ret ws rm 0 0 n)
    (hK : va_K D vwCl tys s) (hP : va_P D vwCl (cat gs) H) (hD : va_D A0 (cat gs)) (hS : va_S A0 s.heap H locs) (hA : ∀ q, s.heap.size ≤ q → A0 q)
    (is : List Nat) (hi : is.map (fun i => gs[i]?) = gi.map some) (hn : va_nd is = true) (hlen : gi.length = go.length) (q0 ci : Nat) (hc : vwCl[ci]? = some (C, T, N)) (he : (cat gi)[q0]? = some (b, .inr (ci, fs)))
    (hAs : As.length = n) (hsize : ls.size = nL) (hst : st0 = As.reverse ++ .ref b :: rest) (hW : (rest.map fun v => v.category).sum ≤ 8) (hdg : decode cc pc = .ok (.invokevirtual index, 3)) (hf : cells ≤ R.cells ∧ slots ≤ R.slots)
    (kk : ∀ (H1 : Heap) (locs1 : List Loc), va_P D vwCl (cat (sets gs is go)) H1 → va_D A0 (cat (sets gs is go)) → va_S A0 s.heap H1 locs1 → W p l e R s m args below meth c H1 locs1 cells slots Q (F0 m (pc + 3) ls (.ref R0 :: rest))) :
    W p l e R s m args below meth c H locs cells slots Q (F0 m pc ls st0) := by
  have hPc := seg_P hP hn hi
  have hDc := seg_D hD hn hi
  have hFc := seg_F hD hS hA hn hi
  refine va_callr (va_runV (As := As) (rest := rest) fix (hM H.size) cw ⟨cPre_blind, va_recv hK hPc hc he, (gV_pre hPc hK hDc).2⟩ rfl hAs hsize hst (lv_room hW) hdg hf) hS (fun q _ h => hFc q h) hFc (fun u ra t H1 locs1 ht hvm hw hB hz hk hS1 => ?_)
  obtain ⟨hra, hP1, hK1, hD1⟩ := hB
  rw [ht] at hP1
  obtain ⟨hP2, hD2⟩ := seg_join hP hD hn hi hlen hk hFc hP1 hD1
  rw [hra]
  exact kk H1 locs1 hP2 hD2 hS1
theorem end_r {a R0 : Nat} {X : String} (hx : p.tables.exec = Jvm.exec) (hb : c.code = cc) (hr : meth.sig.returnType = some (.object X)) (hlocks : meth.locks = false) (hK : va_K D vwCl tys s) (hP : va_P D vwCl (cat go) H) (hD : va_D A0 (cat go)) (hS : va_S A0 s.heap H locs) (hv : a = R0) (hdg : decode cc pc = .ok (.areturn, 1)) :
    W p l e R s m args below meth c H locs cells slots (MQ below (va_Qr (fun (_ : Unit) => True) (fun _ ra t => ra = R0 ∧ cB D tys A0 go t) A0) args s cells slots A0) (F0 m pc ls [.ref a]) :=
  W.aret (v := .ref a) hx hb hr (Or.inl ⟨X, rfl⟩) (Or.inr ⟨a, rfl⟩) (fun t ht hW => ⟨⟨(), a, rfl, trivial, hv, by rw [ht]; exact hP, va_K.moved hW.alike hK, hD⟩, hS.F ht⟩) hS.2.2 hdg hlocks
theorem top_v {x x' : Value} (h : x = x') (kk : W p l e R s m args below meth c H locs cells slots Q (F0 m pc ls (x' :: rest))) : W p l e R s m args below meth c H locs cells slots Q (F0 m pc ls (x :: rest)) := h ▸ kk
end RF2
theorem arrV_congr {cA : ClassId} {n : Nat} {f g : Nat → Value} (h : ∀ k, k < n → f k = g k) : arrV cA n f = arrV cA n g := by
  unfold arrV
  congr 1
  exact congrArg _ (funext fun i => h i.val i.isLt)
theorem segq_P {D : va_G} {cl : List vw_C} {gs : List va_W} {H : Heap} {i a n : Nat} {cy : ClassId} {f g : Nat → Option Nat} (hi : gs[i]? = some [(a, .inl (cy, n, .inr (.inr (.inr (.inr f)))))]) (hfg : ∀ k, k < n → f k = g k) (hP : va_P D cl (cat gs) H) :
    va_P D cl (cat (gs.set i [(a, .inl (cy, n, .inr (.inr (.inr (.inr g)))))])) H := by
  refine P_iff.mpr fun q hq => ?_
  obtain ⟨s, hs, hq⟩ := List.mem_flatten.mp hq
  rcases List.mem_or_eq_of_mem_set hs with h | h
  · exact P_iff.mp hP q (List.mem_flatten.mpr ⟨s, h, hq⟩)
  · subst h
    have e : q = (a, .inl (cy, n, .inr (.inr (.inr (.inr g))))) := List.mem_singleton.mp hq
    subst e
    have h0 := P_iff.mp hP (a, .inl (cy, n, .inr (.inr (.inr (.inr f))))) (List.mem_flatten.mpr ⟨_, List.mem_of_getElem? hi, List.mem_singleton.mpr rfl⟩)
    show H[a]? = some (arrV cy n (fun j => va_rf (g j)))
    have h1 : H[a]? = some (arrV cy n (fun j => va_rf (f j))) := h0
    rw [h1, arrV_congr (fun k hk => congrArg va_rf (hfg k hk))]
theorem segq_D {A : Nat → Prop} {gs : List va_W} {i a n : Nat} {cy : ClassId} {f g : Nat → Option Nat} (hi : gs[i]? = some [(a, .inl (cy, n, .inr (.inr (.inr (.inr f)))))]) (hD : va_D A (cat gs)) :
    va_D A (cat (gs.set i [(a, .inl (cy, n, .inr (.inr (.inr (.inr g)))))])) := by
  have e : (cat (gs.set i [(a, .inl (cy, n, .inr (.inr (.inr (.inr g)))))])).map Prod.fst = (cat gs).map Prod.fst := by
    unfold cat
    rw [List.map_flatten, List.map_flatten, List.map_set]
    congr 1
    obtain ⟨hl, he⟩ := List.getElem?_eq_some_iff.mp hi
    refine List.ext_getElem? (fun j => ?_)
    rw [List.getElem?_set]
    by_cases c : i = j
    · subst c
      rw [if_pos rfl, if_pos (by simpa using hl), List.getElem?_map, hi]; rfl
    · rw [if_neg c]
  rw [D_iff] at hD ⊢
  rw [e]
  refine ⟨hD.1, fun q hq => ?_⟩
  have : q.1 ∈ (cat gs).map Prod.fst := by rw [← e]; exact List.mem_map.mpr ⟨q, hq, rfl⟩
  obtain ⟨x, hx, ex⟩ := List.mem_map.mp this
  rw [← ex]; exact hD.2 x hx
abbrev HS : Type := Nat × (Nat → DS)
def hiW (cyI cyO : ClassId) (L : Nat → Nat → Nat) (S : HS) : va_W := (L 6 0, .inr (2, [.ref (L 6 1), .int (nI S.1)])) :: (L 6 1, .inl (cyO, 6, .inr (.inr (.inr (.inr (fun k => some (L k 0))))))) ::
  (dyW cyI (L 0) (S.2 0) ++ (dyW cyI (L 1) (S.2 1) ++ (dyW cyI (L 2) (S.2 2) ++ (dyW cyI (L 3) (S.2 3) ++ (dyW cyI (L 4) (S.2 4) ++ dyW cyI (L 5) (S.2 5))))))
def rotL (L : Nat → Nat → Nat) : Nat → Nat → Nat := fun k => if k < 5 then L (k + 1) else if k = 5 then L 0 else L k
def rotD (DD : Nat → DS) (D : DS) : Nat → DS := fun k => if k < 5 then DD (k + 1) else dCopy (DD 0) D
def svL (L : Nat → Nat → Nat) (S : HS) : Nat → Nat → Nat := if S.1 < 6 then L else rotL L
def svS (S : HS) (D : DS) : HS := if S.1 < 6 then (S.1 + 1, va_up S.2 S.1 (dCopy (S.2 S.1) D)) else (6, rotD S.2 D)

abbrev rm_X2_isEmpty : Room := { frames := 0, cells := 0, slots := 0, locals := 0 }
set_option maxHeartbeats 4000000 in
set_option maxRecDepth 100000 in
theorem c_X2_isEmpty (l : Launch) (G : va_G) (cyI cyO : ClassId) (h sv c : Nat) (f : Nat → Option Nat) (hc : c ≤ 6) : CI l G (TY cyI cyO) yX2_isEmpty wsX2_isEmpty rm_X2_isEmpty [.ref (h)] [[(h, .inr (2, [.ref (sv), .int (nI (c))]))], [(sv, .inl (cyO, 6, .inr (.inr (.inr (.inr (f))))))]] (bI (decide (c = 0))) [[(h, .inr (2, [.ref (sv), .int (nI (c))]))], [(sv, .inl (cyO, 6, .inr (.inr (.inr (.inr (f))))))]] := by
  refine wk_I (cc := cX2_isEmpty) (maxL := 1) (ret := (some .boolean)) (by decide) rfl (Nat.le_of_ble_eq_true rfl) ?_
  intro p9 e9 s9 m9 b9 t9 c9 A9 ls hx hb hr hts hown hlocks hml hK hA hD hP hl hS hnm
  have hl : lv_has ls 1 [(0, .ref (h))] := hl
  have hinX2 : ∀ w ∈ wsX20, w ∈ wsX2_isEmpty := by decide +kernel
  have hf17 := hts (.fieldLink RX2 17 "DoorstepRounds$History" "count" "I") (by decide +kernel)
  refine lv_aload_n hx hb dX2_isEmpty_0 rfl (lv_at hl 0 rfl) ?_
  refine va_get (v := .int (nI (c))) (C := RX2) (T := TX2) (N := 2) hx hb hts hinX2 hown hK hP 0 rfl rfl 1 (by decide) hf17 (fun _ h9 => h9) rfl dX2_isEmpty_1 ?_
  refine lv_if_gt (tgt := 11) hx hb dX2_isEmpty_4 (by decide) (fun c_4 => ?_) (fun c_4 => ?_)
  · have c_4 : (0) < (c) := (nI_ltI (a := 0) (b := c) (by omega) (by omega)).mp c_4
    refine lv_iconst (v := (0 : Int32)) hx hb dX2_isEmpty_11 (by decide) ?_
    have hP : va_P G vwCl (cat [[(h, .inr (2, [.ref (sv), .int (nI (c))]))], [(sv, .inl (cyO, 6, .inr (.inr (.inr (.inr (f))))))]]) s9.heap := hP
    have hD : va_D A9 (cat [[(h, .inr (2, [.ref (sv), .int (nI (c))]))], [(sv, .inl (cyO, 6, .inr (.inr (.inr (.inr (f))))))]]) := hD
    exact end_z hx hb hr hlocks hK hP hD hS (by simp [bI]; omega) (Or.inl rfl) dX2_isEmpty_12
  · have c_4 : ¬ (0) < (c) := fun h9 => c_4 ((nI_ltI (a := 0) (b := c) (by omega) (by omega)).mpr h9)
    refine lv_iconst (v := (1 : Int32)) hx hb dX2_isEmpty_7 (by decide) ?_
    refine lv_goto (tgt := 12) hx hb dX2_isEmpty_8 (by decide) ?_
    have hP : va_P G vwCl (cat [[(h, .inr (2, [.ref (sv), .int (nI (c))]))], [(sv, .inl (cyO, 6, .inr (.inr (.inr (.inr (f))))))]]) s9.heap := hP
    have hD : va_D A9 (cat [[(h, .inr (2, [.ref (sv), .int (nI (c))]))], [(sv, .inl (cyO, 6, .inr (.inr (.inr (.inr (f))))))]]) := hD
    exact end_z hx hb hr hlocks hK hP hD hS (by simp [bI]; omega) (Or.inr rfl) dX2_isEmpty_12
abbrev rm_X2_savedAt : Room := { frames := 0, cells := 0, slots := 0, locals := 0 }
set_option maxHeartbeats 4000000 in
set_option maxRecDepth 100000 in
theorem c_X2_savedAt (l : Launch) (G : va_G) (cyI cyO : ClassId) (h sv k a : Nat) (cn : Int32) (f : Nat → Option Nat) (hk : k < 6) (hf : f k = some a) : CR l G (TY cyI cyO) yX2_savedAt wsX2_savedAt rm_X2_savedAt [.ref (h), .int (nI (k))] [[(h, .inr (2, [.ref (sv), .int (cn)]))], [(sv, .inl (cyO, 6, .inr (.inr (.inr (.inr (f))))))]] a [[(h, .inr (2, [.ref (sv), .int (cn)]))], [(sv, .inl (cyO, 6, .inr (.inr (.inr (.inr (f))))))]] := by
  refine wk_R (cc := cX2_savedAt) (maxL := 2) (ret := (some (.object "DoorstepRounds$Dairy"))) (by decide) rfl (Nat.le_of_ble_eq_true rfl) ?_
  intro p9 e9 s9 m9 b9 t9 c9 A9 ls hx hb hr hts hown hlocks hml hK hA hD hP hl hS hnm
  have hl : lv_has ls 2 [(0, .ref (h)), (1, .int (nI (k)))] := hl
  have hinX2 : ∀ w ∈ wsX20, w ∈ wsX2_savedAt := by decide +kernel
  have hf11 := hts (.fieldLink RX2 11 "DoorstepRounds$History" "saved" "[LDoorstepRounds$Dairy;") (by decide +kernel)
  refine lv_iload_n hx hb dX2_savedAt_0 rfl (lv_at hl 1 rfl) ?_
  refine lv_if_lt (tgt := 22) hx hb dX2_savedAt_1 (by decide) (fun c_1 => ?_) (fun c_1 => ?_)
  · have c_1 : (k) < (0) := (nI_ltI (a := k) (b := 0) (by omega) (by omega)).mp c_1
    exact absurd c_1 (by omega)
  · have c_1 : ¬ (k) < (0) := fun h9 => c_1 ((nI_ltI (a := k) (b := 0) (by omega) (by omega)).mpr h9)
    refine lv_iload_n hx hb dX2_savedAt_4 rfl (lv_at hl 1 rfl) ?_
    refine lv_aload_n hx hb dX2_savedAt_5 rfl (lv_at hl 0 rfl) ?_
    refine va_get (v := .ref (sv)) (C := RX2) (T := TX2) (N := 2) hx hb hts hinX2 hown hK hP 0 rfl rfl 0 (by decide) hf11 (fun _ h9 => h9) rfl dX2_savedAt_6 ?_
    refine va_alen (v := nI (6)) hx hb hK hP 1 1 rfl rfl rfl dX2_savedAt_9 ?_
    refine lv_icmp_ge (tgt := 22) hx hb dX2_savedAt_10 (by decide) (fun c_10 => ?_) (fun c_10 => ?_)
    · have c_10 : (6) ≤ (k) := (nI_leI (a := 6) (b := k) (by omega) (by omega)).mp c_10
      exact absurd c_10 (by omega)
    · have c_10 : ¬ (6) ≤ (k) := fun h9 => c_10 ((nI_leI (a := 6) (b := k) (by omega) (by omega)).mpr h9)
      refine lv_aload_n hx hb dX2_savedAt_13 rfl (lv_at hl 0 rfl) ?_
      refine va_get (v := .ref (sv)) (C := RX2) (T := TX2) (N := 2) hx hb hts hinX2 hown hK hP 0 rfl rfl 0 (by decide) hf11 (fun _ h9 => h9) rfl dX2_savedAt_14 ?_
      refine lv_iload_n hx hb dX2_savedAt_17 rfl (lv_at hl 1 rfl) ?_
      refine va_aldq hx hb hK hP 1 1 rfl rfl (vp_in_nI (n := k) (by omega) (by omega)) dX2_savedAt_18 ?_
      refine top_v (x' := .ref (a)) (by rw [show (nI (k) : Int32).toNatClampNeg = k from nI_clamp (n := k) (by omega)]; rw [hf]; rfl) ?_
      refine lv_goto (tgt := 23) hx hb dX2_savedAt_19 (by decide) ?_
      have hP : va_P G vwCl (cat [[(h, .inr (2, [.ref (sv), .int (cn)]))], [(sv, .inl (cyO, 6, .inr (.inr (.inr (.inr (f))))))]]) s9.heap := hP
      have hD : va_D A9 (cat [[(h, .inr (2, [.ref (sv), .int (cn)]))], [(sv, .inl (cyO, 6, .inr (.inr (.inr (.inr (f))))))]]) := hD
      exact end_r hx hb hr hlocks hK hP hD hS (rfl) dX2_savedAt_23
abbrev rm_X2_moveOldestToEnd : Room := { frames := 1, cells := 0, slots := 0, locals := 21 }
set_option maxHeartbeats 4000000 in
set_option maxRecDepth 100000 in
theorem c_X2_moveOldestToEnd (l : Launch) (G : va_G) (cyI cyO : ClassId) (h sv : Nat) (cn : Int32) (f : Nat → Option Nat) (A0 A1 A2 A3 A4 A5 : Nat → Nat) (D0 D1 D2 D3 D4 D5 : DS) (h0 : f 0 = some (A0 0)) (h1 : f 1 = some (A1 0)) (h2 : f 2 = some (A2 0)) (h3 : f 3 = some (A3 0)) (h4 : f 4 = some (A4 0)) (h5 : f 5 = some (A5 0)) : CV l G (TY cyI cyO) yX2_moveOldestToEnd wsX2_moveOldestToEnd rm_X2_moveOldestToEnd [.ref (h)] [[(h, .inr (2, [.ref (sv), .int (cn)]))], [(sv, .inl (cyO, 6, .inr (.inr (.inr (.inr (f))))))], dyW cyI A0 D0, dyW cyI A1 D1, dyW cyI A2 D2, dyW cyI A3 D3, dyW cyI A4 D4, dyW cyI A5 D5] [[(h, .inr (2, [.ref (sv), .int (cn)]))], [(sv, .inl (cyO, 6, .inr (.inr (.inr (.inr (va_up (va_up (va_up (va_up (va_up (va_up f 0 (some (A1 0))) 1 (some (A2 0))) 2 (some (A3 0))) 3 (some (A4 0))) 4 (some (A5 0))) 5 (some (A0 0))))))))], dyW cyI A0 D0, dyW cyI A1 D1, dyW cyI A2 D2, dyW cyI A3 D3, dyW cyI A4 D4, dyW cyI A5 D5] := by
  refine wk_V (cc := cX2_moveOldestToEnd) (maxL := 3) (ret := none) (by decide) rfl (Nat.le_of_ble_eq_true rfl) ?_
  intro p9 e9 s9 m9 b9 t9 c9 A9 ls hx hb hr hts hown hlocks hml hK hA hD hP hl hS hnm
  have hl : lv_has ls 3 [(0, .ref (h))] := hl
  have hinX2 : ∀ w ∈ wsX20, w ∈ wsX2_moveOldestToEnd := by decide +kernel
  have hf11 := hts (.fieldLink RX2 11 "DoorstepRounds$History" "saved" "[LDoorstepRounds$Dairy;") (by decide +kernel)
  refine lv_aload_n hx hb dX2_moveOldestToEnd_0 rfl (lv_at hl 0 rfl) ?_
  refine lv_iconst (v := (0 : Int32)) hx hb dX2_moveOldestToEnd_1 (by decide) ?_
  refine gVr (gs := [[(h, .inr (2, [.ref (sv), .int (cn)]))], [(sv, .inl (cyO, 6, .inr (.inr (.inr (.inr (f))))))], dyW cyI A0 D0, dyW cyI A1 D1, dyW cyI A2 D2, dyW cyI A3 D3, dyW cyI A4 D4, dyW cyI A5 D5]) (As := [.int ((0 : Int32))]) (rest := []) ⟨hx, hb, hml, hown, hts⟩ (c_X2_savedAt l G cyI cyO h sv 0 (A0 0) cn f (by omega) (h0)) (cwV 1 hts gX2_moveOldestToEnd_X2_savedAt rfl rfl rfl (by decide +kernel) ⟨Nat.le_of_ble_eq_true rfl, Nat.le_of_ble_eq_true rfl⟩) hK hP hD hS hA [0, 1] rfl rfl rfl 0 2 rfl rfl rfl hl.1 rfl (Nat.le_of_ble_eq_true rfl) dX2_moveOldestToEnd_2 ⟨Nat.le_refl _, Nat.le_refl _⟩ (fun H locs hP hD hS => ?_)
  have hP : va_P G vwCl (cat [[(h, .inr (2, [.ref (sv), .int (cn)]))], [(sv, .inl (cyO, 6, .inr (.inr (.inr (.inr (f))))))], dyW cyI A0 D0, dyW cyI A1 D1, dyW cyI A2 D2, dyW cyI A3 D3, dyW cyI A4 D4, dyW cyI A5 D5]) H := hP
  have hD : va_D A9 (cat [[(h, .inr (2, [.ref (sv), .int (cn)]))], [(sv, .inl (cyO, 6, .inr (.inr (.inr (.inr (f))))))], dyW cyI A0 D0, dyW cyI A1 D1, dyW cyI A2 D2, dyW cyI A3 D3, dyW cyI A4 D4, dyW cyI A5 D5]) := hD
  refine lv_astore_n (lv' := [(1, .ref (A0 0)), (0, .ref (h))]) hx hb dX2_moveOldestToEnd_5 rfl hl (by decide) rfl (fun ls hl => ?_)
  refine lv_iconst (v := (1 : Int32)) hx hb dX2_moveOldestToEnd_6 (by decide) ?_
  refine lv_istore_n (lv' := [(2, .int ((1 : Int32))), (1, .ref (A0 0)), (0, .ref (h))]) hx hb dX2_moveOldestToEnd_7 rfl hl (by decide) rfl (fun ls hl => ?_)
  refine lv_iload_n hx hb dX2_moveOldestToEnd_8 rfl (lv_at hl 0 rfl) ?_
  refine lv_aload_n hx hb dX2_moveOldestToEnd_9 rfl (lv_at hl 2 rfl) ?_
  refine va_get (v := .ref (sv)) (C := RX2) (T := TX2) (N := 2) hx hb hts hinX2 hown hK hP 0 rfl rfl 0 (by decide) hf11 (fun _ h9 => h9) rfl dX2_moveOldestToEnd_10 ?_
  refine va_alen (v := (6 : Int32)) hx hb hK hP 1 1 rfl rfl rfl dX2_moveOldestToEnd_13 ?_
  refine lv_icmp_ge (tgt := 37) hx hb dX2_moveOldestToEnd_14 (by decide) (fun c_14 => ?_) (fun c_14 => ?_)
  · exact absurd c_14 (by decide)
  · refine lv_aload_n hx hb dX2_moveOldestToEnd_17 rfl (lv_at hl 2 rfl) ?_
    refine va_get (v := .ref (sv)) (C := RX2) (T := TX2) (N := 2) hx hb hts hinX2 hown hK hP 0 rfl rfl 0 (by decide) hf11 (fun _ h9 => h9) rfl dX2_moveOldestToEnd_18 ?_
    refine lv_iload_n hx hb dX2_moveOldestToEnd_21 rfl (lv_at hl 0 rfl) ?_
    refine lv_iconst (v := (1 : Int32)) hx hb dX2_moveOldestToEnd_22 (by decide) ?_
    refine lv_isub hx hb dX2_moveOldestToEnd_23 ?_
    refine top_i (x' := (0 : Int32)) (by decide) ?_
    refine lv_aload_n hx hb dX2_moveOldestToEnd_24 rfl (lv_at hl 2 rfl) ?_
    refine va_get (v := .ref (sv)) (C := RX2) (T := TX2) (N := 2) hx hb hts hinX2 hown hK hP 0 rfl rfl 0 (by decide) hf11 (fun _ h9 => h9) rfl dX2_moveOldestToEnd_25 ?_
    refine lv_iload_n hx hb dX2_moveOldestToEnd_28 rfl (lv_at hl 0 rfl) ?_
    refine va_aldq hx hb hK hP 1 1 rfl rfl (vp_in_nI (n := 1) (by omega) (by omega)) dX2_moveOldestToEnd_29 ?_
    refine top_v (x' := .ref (A1 0)) (by rw [show ((1 : Int32) : Int32).toNatClampNeg = 1 from nI_clamp (n := 1) (by omega)]; simp [va_up, va_rf, h0, h1, h2, h3, h4, h5]) ?_
    refine va_astq hx hb hK hP hD hS 1 1 13 1 rfl rfl rfl rfl (vp_in_nI (n := 0) (by omega) (by omega)) dX2_moveOldestToEnd_30 (fun H locs hP hD hS => ?_)
    have hP : va_P G vwCl (cat [[(h, .inr (2, [.ref (sv), .int (cn)]))], [(sv, .inl (cyO, 6, .inr (.inr (.inr (.inr (va_up f 0 (some (A1 0))))))))], dyW cyI A0 D0, dyW cyI A1 D1, dyW cyI A2 D2, dyW cyI A3 D3, dyW cyI A4 D4, dyW cyI A5 D5]) H := hP
    have hD : va_D A9 (cat [[(h, .inr (2, [.ref (sv), .int (cn)]))], [(sv, .inl (cyO, 6, .inr (.inr (.inr (.inr (va_up f 0 (some (A1 0))))))))], dyW cyI A0 D0, dyW cyI A1 D1, dyW cyI A2 D2, dyW cyI A3 D3, dyW cyI A4 D4, dyW cyI A5 D5]) := hD
    refine lv_iinc (v := (2 : Int32)) (lv' := [(2, .int ((2 : Int32))), (1, .ref (A0 0)), (0, .ref (h))]) hx hb dX2_moveOldestToEnd_31 hl (k := 0) rfl (by decide) (by decide) rfl (fun ls hl => ?_)
    refine lv_goto (tgt := 8) hx hb dX2_moveOldestToEnd_34 (by decide) ?_
    refine lv_iload_n hx hb dX2_moveOldestToEnd_8 rfl (lv_at hl 0 rfl) ?_
    refine lv_aload_n hx hb dX2_moveOldestToEnd_9 rfl (lv_at hl 2 rfl) ?_
    refine va_get (v := .ref (sv)) (C := RX2) (T := TX2) (N := 2) hx hb hts hinX2 hown hK hP 0 rfl rfl 0 (by decide) hf11 (fun _ h9 => h9) rfl dX2_moveOldestToEnd_10 ?_
    refine va_alen (v := (6 : Int32)) hx hb hK hP 1 1 rfl rfl rfl dX2_moveOldestToEnd_13 ?_
    refine lv_icmp_ge (tgt := 37) hx hb dX2_moveOldestToEnd_14 (by decide) (fun c_14 => ?_) (fun c_14 => ?_)
    · exact absurd c_14 (by decide)
    · refine lv_aload_n hx hb dX2_moveOldestToEnd_17 rfl (lv_at hl 2 rfl) ?_
      refine va_get (v := .ref (sv)) (C := RX2) (T := TX2) (N := 2) hx hb hts hinX2 hown hK hP 0 rfl rfl 0 (by decide) hf11 (fun _ h9 => h9) rfl dX2_moveOldestToEnd_18 ?_
      refine lv_iload_n hx hb dX2_moveOldestToEnd_21 rfl (lv_at hl 0 rfl) ?_
      refine lv_iconst (v := (1 : Int32)) hx hb dX2_moveOldestToEnd_22 (by decide) ?_
      refine lv_isub hx hb dX2_moveOldestToEnd_23 ?_
      refine top_i (x' := (1 : Int32)) (by decide) ?_
      refine lv_aload_n hx hb dX2_moveOldestToEnd_24 rfl (lv_at hl 2 rfl) ?_
      refine va_get (v := .ref (sv)) (C := RX2) (T := TX2) (N := 2) hx hb hts hinX2 hown hK hP 0 rfl rfl 0 (by decide) hf11 (fun _ h9 => h9) rfl dX2_moveOldestToEnd_25 ?_
      refine lv_iload_n hx hb dX2_moveOldestToEnd_28 rfl (lv_at hl 0 rfl) ?_
      refine va_aldq hx hb hK hP 1 1 rfl rfl (vp_in_nI (n := 2) (by omega) (by omega)) dX2_moveOldestToEnd_29 ?_
      refine top_v (x' := .ref (A2 0)) (by rw [show ((2 : Int32) : Int32).toNatClampNeg = 2 from nI_clamp (n := 2) (by omega)]; simp [va_up, va_rf, h0, h1, h2, h3, h4, h5]) ?_
      refine va_astq hx hb hK hP hD hS 1 1 24 1 rfl rfl rfl rfl (vp_in_nI (n := 1) (by omega) (by omega)) dX2_moveOldestToEnd_30 (fun H locs hP hD hS => ?_)
      have hP : va_P G vwCl (cat [[(h, .inr (2, [.ref (sv), .int (cn)]))], [(sv, .inl (cyO, 6, .inr (.inr (.inr (.inr (va_up (va_up f 0 (some (A1 0))) 1 (some (A2 0))))))))], dyW cyI A0 D0, dyW cyI A1 D1, dyW cyI A2 D2, dyW cyI A3 D3, dyW cyI A4 D4, dyW cyI A5 D5]) H := hP
      have hD : va_D A9 (cat [[(h, .inr (2, [.ref (sv), .int (cn)]))], [(sv, .inl (cyO, 6, .inr (.inr (.inr (.inr (va_up (va_up f 0 (some (A1 0))) 1 (some (A2 0))))))))], dyW cyI A0 D0, dyW cyI A1 D1, dyW cyI A2 D2, dyW cyI A3 D3, dyW cyI A4 D4, dyW cyI A5 D5]) := hD
      refine lv_iinc (v := (3 : Int32)) (lv' := [(2, .int ((3 : Int32))), (1, .ref (A0 0)), (0, .ref (h))]) hx hb dX2_moveOldestToEnd_31 hl (k := 0) rfl (by decide) (by decide) rfl (fun ls hl => ?_)
      refine lv_goto (tgt := 8) hx hb dX2_moveOldestToEnd_34 (by decide) ?_
      refine lv_iload_n hx hb dX2_moveOldestToEnd_8 rfl (lv_at hl 0 rfl) ?_
      refine lv_aload_n hx hb dX2_moveOldestToEnd_9 rfl (lv_at hl 2 rfl) ?_
      refine va_get (v := .ref (sv)) (C := RX2) (T := TX2) (N := 2) hx hb hts hinX2 hown hK hP 0 rfl rfl 0 (by decide) hf11 (fun _ h9 => h9) rfl dX2_moveOldestToEnd_10 ?_
      refine va_alen (v := (6 : Int32)) hx hb hK hP 1 1 rfl rfl rfl dX2_moveOldestToEnd_13 ?_
      refine lv_icmp_ge (tgt := 37) hx hb dX2_moveOldestToEnd_14 (by decide) (fun c_14 => ?_) (fun c_14 => ?_)
      · exact absurd c_14 (by decide)
      · refine lv_aload_n hx hb dX2_moveOldestToEnd_17 rfl (lv_at hl 2 rfl) ?_
        refine va_get (v := .ref (sv)) (C := RX2) (T := TX2) (N := 2) hx hb hts hinX2 hown hK hP 0 rfl rfl 0 (by decide) hf11 (fun _ h9 => h9) rfl dX2_moveOldestToEnd_18 ?_
        refine lv_iload_n hx hb dX2_moveOldestToEnd_21 rfl (lv_at hl 0 rfl) ?_
        refine lv_iconst (v := (1 : Int32)) hx hb dX2_moveOldestToEnd_22 (by decide) ?_
        refine lv_isub hx hb dX2_moveOldestToEnd_23 ?_
        refine top_i (x' := (2 : Int32)) (by decide) ?_
        refine lv_aload_n hx hb dX2_moveOldestToEnd_24 rfl (lv_at hl 2 rfl) ?_
        refine va_get (v := .ref (sv)) (C := RX2) (T := TX2) (N := 2) hx hb hts hinX2 hown hK hP 0 rfl rfl 0 (by decide) hf11 (fun _ h9 => h9) rfl dX2_moveOldestToEnd_25 ?_
        refine lv_iload_n hx hb dX2_moveOldestToEnd_28 rfl (lv_at hl 0 rfl) ?_
        refine va_aldq hx hb hK hP 1 1 rfl rfl (vp_in_nI (n := 3) (by omega) (by omega)) dX2_moveOldestToEnd_29 ?_
        refine top_v (x' := .ref (A3 0)) (by rw [show ((3 : Int32) : Int32).toNatClampNeg = 3 from nI_clamp (n := 3) (by omega)]; simp [va_up, va_rf, h0, h1, h2, h3, h4, h5]) ?_
        refine va_astq hx hb hK hP hD hS 1 1 35 1 rfl rfl rfl rfl (vp_in_nI (n := 2) (by omega) (by omega)) dX2_moveOldestToEnd_30 (fun H locs hP hD hS => ?_)
        have hP : va_P G vwCl (cat [[(h, .inr (2, [.ref (sv), .int (cn)]))], [(sv, .inl (cyO, 6, .inr (.inr (.inr (.inr (va_up (va_up (va_up f 0 (some (A1 0))) 1 (some (A2 0))) 2 (some (A3 0))))))))], dyW cyI A0 D0, dyW cyI A1 D1, dyW cyI A2 D2, dyW cyI A3 D3, dyW cyI A4 D4, dyW cyI A5 D5]) H := hP
        have hD : va_D A9 (cat [[(h, .inr (2, [.ref (sv), .int (cn)]))], [(sv, .inl (cyO, 6, .inr (.inr (.inr (.inr (va_up (va_up (va_up f 0 (some (A1 0))) 1 (some (A2 0))) 2 (some (A3 0))))))))], dyW cyI A0 D0, dyW cyI A1 D1, dyW cyI A2 D2, dyW cyI A3 D3, dyW cyI A4 D4, dyW cyI A5 D5]) := hD
        refine lv_iinc (v := (4 : Int32)) (lv' := [(2, .int ((4 : Int32))), (1, .ref (A0 0)), (0, .ref (h))]) hx hb dX2_moveOldestToEnd_31 hl (k := 0) rfl (by decide) (by decide) rfl (fun ls hl => ?_)
        refine lv_goto (tgt := 8) hx hb dX2_moveOldestToEnd_34 (by decide) ?_
        refine lv_iload_n hx hb dX2_moveOldestToEnd_8 rfl (lv_at hl 0 rfl) ?_
        refine lv_aload_n hx hb dX2_moveOldestToEnd_9 rfl (lv_at hl 2 rfl) ?_
        refine va_get (v := .ref (sv)) (C := RX2) (T := TX2) (N := 2) hx hb hts hinX2 hown hK hP 0 rfl rfl 0 (by decide) hf11 (fun _ h9 => h9) rfl dX2_moveOldestToEnd_10 ?_
        refine va_alen (v := (6 : Int32)) hx hb hK hP 1 1 rfl rfl rfl dX2_moveOldestToEnd_13 ?_
        refine lv_icmp_ge (tgt := 37) hx hb dX2_moveOldestToEnd_14 (by decide) (fun c_14 => ?_) (fun c_14 => ?_)
        · exact absurd c_14 (by decide)
        · refine lv_aload_n hx hb dX2_moveOldestToEnd_17 rfl (lv_at hl 2 rfl) ?_
          refine va_get (v := .ref (sv)) (C := RX2) (T := TX2) (N := 2) hx hb hts hinX2 hown hK hP 0 rfl rfl 0 (by decide) hf11 (fun _ h9 => h9) rfl dX2_moveOldestToEnd_18 ?_
          refine lv_iload_n hx hb dX2_moveOldestToEnd_21 rfl (lv_at hl 0 rfl) ?_
          refine lv_iconst (v := (1 : Int32)) hx hb dX2_moveOldestToEnd_22 (by decide) ?_
          refine lv_isub hx hb dX2_moveOldestToEnd_23 ?_
          refine top_i (x' := (3 : Int32)) (by decide) ?_
          refine lv_aload_n hx hb dX2_moveOldestToEnd_24 rfl (lv_at hl 2 rfl) ?_
          refine va_get (v := .ref (sv)) (C := RX2) (T := TX2) (N := 2) hx hb hts hinX2 hown hK hP 0 rfl rfl 0 (by decide) hf11 (fun _ h9 => h9) rfl dX2_moveOldestToEnd_25 ?_
          refine lv_iload_n hx hb dX2_moveOldestToEnd_28 rfl (lv_at hl 0 rfl) ?_
          refine va_aldq hx hb hK hP 1 1 rfl rfl (vp_in_nI (n := 4) (by omega) (by omega)) dX2_moveOldestToEnd_29 ?_
          refine top_v (x' := .ref (A4 0)) (by rw [show ((4 : Int32) : Int32).toNatClampNeg = 4 from nI_clamp (n := 4) (by omega)]; simp [va_up, va_rf, h0, h1, h2, h3, h4, h5]) ?_
          refine va_astq hx hb hK hP hD hS 1 1 46 1 rfl rfl rfl rfl (vp_in_nI (n := 3) (by omega) (by omega)) dX2_moveOldestToEnd_30 (fun H locs hP hD hS => ?_)
          have hP : va_P G vwCl (cat [[(h, .inr (2, [.ref (sv), .int (cn)]))], [(sv, .inl (cyO, 6, .inr (.inr (.inr (.inr (va_up (va_up (va_up (va_up f 0 (some (A1 0))) 1 (some (A2 0))) 2 (some (A3 0))) 3 (some (A4 0))))))))], dyW cyI A0 D0, dyW cyI A1 D1, dyW cyI A2 D2, dyW cyI A3 D3, dyW cyI A4 D4, dyW cyI A5 D5]) H := hP
          have hD : va_D A9 (cat [[(h, .inr (2, [.ref (sv), .int (cn)]))], [(sv, .inl (cyO, 6, .inr (.inr (.inr (.inr (va_up (va_up (va_up (va_up f 0 (some (A1 0))) 1 (some (A2 0))) 2 (some (A3 0))) 3 (some (A4 0))))))))], dyW cyI A0 D0, dyW cyI A1 D1, dyW cyI A2 D2, dyW cyI A3 D3, dyW cyI A4 D4, dyW cyI A5 D5]) := hD
          refine lv_iinc (v := (5 : Int32)) (lv' := [(2, .int ((5 : Int32))), (1, .ref (A0 0)), (0, .ref (h))]) hx hb dX2_moveOldestToEnd_31 hl (k := 0) rfl (by decide) (by decide) rfl (fun ls hl => ?_)
          refine lv_goto (tgt := 8) hx hb dX2_moveOldestToEnd_34 (by decide) ?_
          refine lv_iload_n hx hb dX2_moveOldestToEnd_8 rfl (lv_at hl 0 rfl) ?_
          refine lv_aload_n hx hb dX2_moveOldestToEnd_9 rfl (lv_at hl 2 rfl) ?_
          refine va_get (v := .ref (sv)) (C := RX2) (T := TX2) (N := 2) hx hb hts hinX2 hown hK hP 0 rfl rfl 0 (by decide) hf11 (fun _ h9 => h9) rfl dX2_moveOldestToEnd_10 ?_
          refine va_alen (v := (6 : Int32)) hx hb hK hP 1 1 rfl rfl rfl dX2_moveOldestToEnd_13 ?_
          refine lv_icmp_ge (tgt := 37) hx hb dX2_moveOldestToEnd_14 (by decide) (fun c_14 => ?_) (fun c_14 => ?_)
          · exact absurd c_14 (by decide)
          · refine lv_aload_n hx hb dX2_moveOldestToEnd_17 rfl (lv_at hl 2 rfl) ?_
            refine va_get (v := .ref (sv)) (C := RX2) (T := TX2) (N := 2) hx hb hts hinX2 hown hK hP 0 rfl rfl 0 (by decide) hf11 (fun _ h9 => h9) rfl dX2_moveOldestToEnd_18 ?_
            refine lv_iload_n hx hb dX2_moveOldestToEnd_21 rfl (lv_at hl 0 rfl) ?_
            refine lv_iconst (v := (1 : Int32)) hx hb dX2_moveOldestToEnd_22 (by decide) ?_
            refine lv_isub hx hb dX2_moveOldestToEnd_23 ?_
            refine top_i (x' := (4 : Int32)) (by decide) ?_
            refine lv_aload_n hx hb dX2_moveOldestToEnd_24 rfl (lv_at hl 2 rfl) ?_
            refine va_get (v := .ref (sv)) (C := RX2) (T := TX2) (N := 2) hx hb hts hinX2 hown hK hP 0 rfl rfl 0 (by decide) hf11 (fun _ h9 => h9) rfl dX2_moveOldestToEnd_25 ?_
            refine lv_iload_n hx hb dX2_moveOldestToEnd_28 rfl (lv_at hl 0 rfl) ?_
            refine va_aldq hx hb hK hP 1 1 rfl rfl (vp_in_nI (n := 5) (by omega) (by omega)) dX2_moveOldestToEnd_29 ?_
            refine top_v (x' := .ref (A5 0)) (by rw [show ((5 : Int32) : Int32).toNatClampNeg = 5 from nI_clamp (n := 5) (by omega)]; simp [va_up, va_rf, h0, h1, h2, h3, h4, h5]) ?_
            refine va_astq hx hb hK hP hD hS 1 1 57 1 rfl rfl rfl rfl (vp_in_nI (n := 4) (by omega) (by omega)) dX2_moveOldestToEnd_30 (fun H locs hP hD hS => ?_)
            have hP : va_P G vwCl (cat [[(h, .inr (2, [.ref (sv), .int (cn)]))], [(sv, .inl (cyO, 6, .inr (.inr (.inr (.inr (va_up (va_up (va_up (va_up (va_up f 0 (some (A1 0))) 1 (some (A2 0))) 2 (some (A3 0))) 3 (some (A4 0))) 4 (some (A5 0))))))))], dyW cyI A0 D0, dyW cyI A1 D1, dyW cyI A2 D2, dyW cyI A3 D3, dyW cyI A4 D4, dyW cyI A5 D5]) H := hP
            have hD : va_D A9 (cat [[(h, .inr (2, [.ref (sv), .int (cn)]))], [(sv, .inl (cyO, 6, .inr (.inr (.inr (.inr (va_up (va_up (va_up (va_up (va_up f 0 (some (A1 0))) 1 (some (A2 0))) 2 (some (A3 0))) 3 (some (A4 0))) 4 (some (A5 0))))))))], dyW cyI A0 D0, dyW cyI A1 D1, dyW cyI A2 D2, dyW cyI A3 D3, dyW cyI A4 D4, dyW cyI A5 D5]) := hD
            refine lv_iinc (v := (6 : Int32)) (lv' := [(2, .int ((6 : Int32))), (1, .ref (A0 0)), (0, .ref (h))]) hx hb dX2_moveOldestToEnd_31 hl (k := 0) rfl (by decide) (by decide) rfl (fun ls hl => ?_)
            refine lv_goto (tgt := 8) hx hb dX2_moveOldestToEnd_34 (by decide) ?_
            refine lv_iload_n hx hb dX2_moveOldestToEnd_8 rfl (lv_at hl 0 rfl) ?_
            refine lv_aload_n hx hb dX2_moveOldestToEnd_9 rfl (lv_at hl 2 rfl) ?_
            refine va_get (v := .ref (sv)) (C := RX2) (T := TX2) (N := 2) hx hb hts hinX2 hown hK hP 0 rfl rfl 0 (by decide) hf11 (fun _ h9 => h9) rfl dX2_moveOldestToEnd_10 ?_
            refine va_alen (v := (6 : Int32)) hx hb hK hP 1 1 rfl rfl rfl dX2_moveOldestToEnd_13 ?_
            refine lv_icmp_ge (tgt := 37) hx hb dX2_moveOldestToEnd_14 (by decide) (fun c_14 => ?_) (fun c_14 => ?_)
            · refine lv_aload_n hx hb dX2_moveOldestToEnd_37 rfl (lv_at hl 2 rfl) ?_
              refine va_get (v := .ref (sv)) (C := RX2) (T := TX2) (N := 2) hx hb hts hinX2 hown hK hP 0 rfl rfl 0 (by decide) hf11 (fun _ h9 => h9) rfl dX2_moveOldestToEnd_38 ?_
              refine va_alen (v := (6 : Int32)) hx hb hK hP 1 1 rfl rfl rfl dX2_moveOldestToEnd_41 ?_
              refine lv_if_le (tgt := 58) hx hb dX2_moveOldestToEnd_42 (by decide) (fun c_42 => ?_) (fun c_42 => ?_)
              · exact absurd c_42 (by decide)
              · refine lv_aload_n hx hb dX2_moveOldestToEnd_45 rfl (lv_at hl 2 rfl) ?_
                refine va_get (v := .ref (sv)) (C := RX2) (T := TX2) (N := 2) hx hb hts hinX2 hown hK hP 0 rfl rfl 0 (by decide) hf11 (fun _ h9 => h9) rfl dX2_moveOldestToEnd_46 ?_
                refine lv_aload_n hx hb dX2_moveOldestToEnd_49 rfl (lv_at hl 2 rfl) ?_
                refine va_get (v := .ref (sv)) (C := RX2) (T := TX2) (N := 2) hx hb hts hinX2 hown hK hP 0 rfl rfl 0 (by decide) hf11 (fun _ h9 => h9) rfl dX2_moveOldestToEnd_50 ?_
                refine va_alen (v := (6 : Int32)) hx hb hK hP 1 1 rfl rfl rfl dX2_moveOldestToEnd_53 ?_
                refine lv_iconst (v := (1 : Int32)) hx hb dX2_moveOldestToEnd_54 (by decide) ?_
                refine lv_isub hx hb dX2_moveOldestToEnd_55 ?_
                refine top_i (x' := (5 : Int32)) (by decide) ?_
                refine lv_aload_n hx hb dX2_moveOldestToEnd_56 rfl (lv_at hl 1 rfl) ?_
                refine va_astq hx hb hK hP hD hS 1 1 2 1 rfl rfl rfl rfl (vp_in_nI (n := 5) (by omega) (by omega)) dX2_moveOldestToEnd_57 (fun H locs hP hD hS => ?_)
                have hP : va_P G vwCl (cat [[(h, .inr (2, [.ref (sv), .int (cn)]))], [(sv, .inl (cyO, 6, .inr (.inr (.inr (.inr (va_up (va_up (va_up (va_up (va_up (va_up f 0 (some (A1 0))) 1 (some (A2 0))) 2 (some (A3 0))) 3 (some (A4 0))) 4 (some (A5 0))) 5 (some (A0 0))))))))], dyW cyI A0 D0, dyW cyI A1 D1, dyW cyI A2 D2, dyW cyI A3 D3, dyW cyI A4 D4, dyW cyI A5 D5]) H := hP
                have hD : va_D A9 (cat [[(h, .inr (2, [.ref (sv), .int (cn)]))], [(sv, .inl (cyO, 6, .inr (.inr (.inr (.inr (va_up (va_up (va_up (va_up (va_up (va_up f 0 (some (A1 0))) 1 (some (A2 0))) 2 (some (A3 0))) 3 (some (A4 0))) 4 (some (A5 0))) 5 (some (A0 0))))))))], dyW cyI A0 D0, dyW cyI A1 D1, dyW cyI A2 D2, dyW cyI A3 D3, dyW cyI A4 D4, dyW cyI A5 D5]) := hD
                have hP : va_P G vwCl (cat [[(h, .inr (2, [.ref (sv), .int (cn)]))], [(sv, .inl (cyO, 6, .inr (.inr (.inr (.inr (va_up (va_up (va_up (va_up (va_up (va_up f 0 (some (A1 0))) 1 (some (A2 0))) 2 (some (A3 0))) 3 (some (A4 0))) 4 (some (A5 0))) 5 (some (A0 0))))))))], dyW cyI A0 D0, dyW cyI A1 D1, dyW cyI A2 D2, dyW cyI A3 D3, dyW cyI A4 D4, dyW cyI A5 D5]) H := hP
                have hD : va_D A9 (cat [[(h, .inr (2, [.ref (sv), .int (cn)]))], [(sv, .inl (cyO, 6, .inr (.inr (.inr (.inr (va_up (va_up (va_up (va_up (va_up (va_up f 0 (some (A1 0))) 1 (some (A2 0))) 2 (some (A3 0))) 3 (some (A4 0))) 4 (some (A5 0))) 5 (some (A0 0))))))))], dyW cyI A0 D0, dyW cyI A1 D1, dyW cyI A2 D2, dyW cyI A3 D3, dyW cyI A4 D4, dyW cyI A5 D5]) := hD
                exact end_v hx hb hr hlocks hK hP hD hS dX2_moveOldestToEnd_58
            · exact absurd c_14 (by decide)
abbrev rm_X2_save : Room := { frames := 3, cells := 0, slots := 0, locals := 64 }
set_option maxHeartbeats 4000000 in
set_option maxRecDepth 100000 in
theorem c_X2_save0 (l : Launch) (G : va_G) (cyI cyO : ClassId) (L : Nat → Nat → Nat) (DD : Nat → DS) (A : Nat → Nat) (D : DS) : CV l G (TY cyI cyO) yX2_save wsX2_save rm_X2_save [.ref (L 6 0), .ref (A 0)] [hiW cyI cyO L ((0, DD)), dyW cyI A D] [hiW cyI cyO L ((1, va_up DD 0 (dCopy (DD 0) D))), dyW cyI A D] := by
  refine wk_V (cc := cX2_save) (maxL := 3) (ret := none) (by decide) rfl (Nat.le_of_ble_eq_true rfl) ?_
  intro p9 e9 s9 m9 b9 t9 c9 A9 ls hx hb hr hts hown hlocks hml hK hA hD hP hl hS hnm
  have hl : lv_has ls 3 [(0, .ref (L 6 0)), (1, .ref (A 0))] := hl
  have hinX2 : ∀ w ∈ wsX20, w ∈ wsX2_save := by decide +kernel
  have hf11 := hts (.fieldLink RX2 11 "DoorstepRounds$History" "saved" "[LDoorstepRounds$Dairy;") (by decide +kernel)
  have hf17 := hts (.fieldLink RX2 17 "DoorstepRounds$History" "count" "I") (by decide +kernel)
  have hP : va_P G vwCl (cat [[(L 6 0, .inr (2, [.ref (L 6 1), .int ((0 : Int32))]))], [(L 6 1, .inl (cyO, 6, .inr (.inr (.inr (.inr (fun k => some (L k 0)))))))], dyW cyI (L 0) (DD 0), dyW cyI (L 1) (DD 1), dyW cyI (L 2) (DD 2), dyW cyI (L 3) (DD 3), dyW cyI (L 4) (DD 4), dyW cyI (L 5) (DD 5), dyW cyI A D]) s9.heap := hP
  have hD : va_D A9 (cat [[(L 6 0, .inr (2, [.ref (L 6 1), .int ((0 : Int32))]))], [(L 6 1, .inl (cyO, 6, .inr (.inr (.inr (.inr (fun k => some (L k 0)))))))], dyW cyI (L 0) (DD 0), dyW cyI (L 1) (DD 1), dyW cyI (L 2) (DD 2), dyW cyI (L 3) (DD 3), dyW cyI (L 4) (DD 4), dyW cyI (L 5) (DD 5), dyW cyI A D]) := hD
  refine lv_aload_n hx hb dX2_save_0 rfl (lv_at hl 0 rfl) ?_
  refine va_get (v := .int ((0 : Int32))) (C := RX2) (T := TX2) (N := 2) hx hb hts hinX2 hown hK hP 0 rfl rfl 1 (by decide) hf17 (fun _ h9 => h9) rfl dX2_save_1 ?_
  refine lv_aload_n hx hb dX2_save_4 rfl (lv_at hl 0 rfl) ?_
  refine va_get (v := .ref (L 6 1)) (C := RX2) (T := TX2) (N := 2) hx hb hts hinX2 hown hK hP 0 rfl rfl 0 (by decide) hf11 (fun _ h9 => h9) rfl dX2_save_5 ?_
  refine va_alen (v := (6 : Int32)) hx hb hK hP 1 1 rfl rfl rfl dX2_save_8 ?_
  refine lv_icmp_lt (tgt := 27) hx hb dX2_save_9 (by decide) (fun c_9 => ?_) (fun c_9 => ?_)
  · refine lv_aload_n hx hb dX2_save_27 rfl (lv_at hl 0 rfl) ?_
    refine lv_aload_n hx hb dX2_save_28 rfl (lv_at hl 0 rfl) ?_
    refine va_get (v := .int ((0 : Int32))) (C := RX2) (T := TX2) (N := 2) hx hb hts hinX2 hown hK hP 0 rfl rfl 1 (by decide) hf17 (fun _ h9 => h9) rfl dX2_save_29 ?_
    refine gVr (gs := [[(L 6 0, .inr (2, [.ref (L 6 1), .int ((0 : Int32))]))], [(L 6 1, .inl (cyO, 6, .inr (.inr (.inr (.inr (fun k => some (L k 0)))))))], dyW cyI (L 0) (DD 0), dyW cyI (L 1) (DD 1), dyW cyI (L 2) (DD 2), dyW cyI (L 3) (DD 3), dyW cyI (L 4) (DD 4), dyW cyI (L 5) (DD 5), dyW cyI A D]) (As := [.int ((0 : Int32))]) (rest := []) ⟨hx, hb, hml, hown, hts⟩ (c_X2_savedAt l G cyI cyO (L 6 0) (L 6 1) 0 (L 0 0) ((0 : Int32)) (fun k => some (L k 0)) (by omega) (rfl)) (cwV 1 hts gX2_save_X2_savedAt rfl rfl rfl (by decide +kernel) ⟨Nat.le_of_ble_eq_true rfl, Nat.le_of_ble_eq_true rfl⟩) hK hP hD hS hA [0, 1] rfl rfl rfl 0 2 rfl rfl rfl hl.1 rfl (Nat.le_of_ble_eq_true rfl) dX2_save_32 ⟨Nat.le_refl _, Nat.le_refl _⟩ (fun H locs hP hD hS => ?_)
    have hP : va_P G vwCl (cat [[(L 6 0, .inr (2, [.ref (L 6 1), .int ((0 : Int32))]))], [(L 6 1, .inl (cyO, 6, .inr (.inr (.inr (.inr (fun k => some (L k 0)))))))], dyW cyI (L 0) (DD 0), dyW cyI (L 1) (DD 1), dyW cyI (L 2) (DD 2), dyW cyI (L 3) (DD 3), dyW cyI (L 4) (DD 4), dyW cyI (L 5) (DD 5), dyW cyI A D]) H := hP
    have hD : va_D A9 (cat [[(L 6 0, .inr (2, [.ref (L 6 1), .int ((0 : Int32))]))], [(L 6 1, .inl (cyO, 6, .inr (.inr (.inr (.inr (fun k => some (L k 0)))))))], dyW cyI (L 0) (DD 0), dyW cyI (L 1) (DD 1), dyW cyI (L 2) (DD 2), dyW cyI (L 3) (DD 3), dyW cyI (L 4) (DD 4), dyW cyI (L 5) (DD 5), dyW cyI A D]) := hD
    refine lv_astore_n (lv' := [(2, .ref (L 0 0)), (0, .ref (L 6 0)), (1, .ref (A 0))]) hx hb dX2_save_35 rfl hl (by decide) rfl (fun ls hl => ?_)
    refine lv_aload_n hx hb dX2_save_36 rfl (lv_at hl 0 rfl) ?_
    refine lv_ifnull hx hb dX2_save_37 ?_
    refine lv_aload_n hx hb dX2_save_40 rfl (lv_at hl 0 rfl) ?_
    refine lv_aload_n hx hb dX2_save_41 rfl (lv_at hl 2 rfl) ?_
    refine gVv (gs := [[(L 6 0, .inr (2, [.ref (L 6 1), .int ((0 : Int32))]))], [(L 6 1, .inl (cyO, 6, .inr (.inr (.inr (.inr (fun k => some (L k 0)))))))], dyW cyI (L 0) (DD 0), dyW cyI (L 1) (DD 1), dyW cyI (L 2) (DD 2), dyW cyI (L 3) (DD 3), dyW cyI (L 4) (DD 4), dyW cyI (L 5) (DD 5), dyW cyI A D]) (As := [.ref (A 0)]) (rest := []) ⟨hx, hb, hml, hown, hts⟩ (c_X1_copyFrom l G cyI cyO (L 0) A (DD 0) D) (cwV 1 hts gX2_save_X1_copyFrom rfl rfl rfl (by decide +kernel) ⟨Nat.le_of_ble_eq_true rfl, Nat.le_of_ble_eq_true rfl⟩) hK hP hD hS hA [2, 8] rfl rfl rfl 0 1 rfl rfl rfl hl.1 rfl (Nat.le_of_ble_eq_true rfl) dX2_save_42 ⟨Nat.le_refl _, Nat.le_refl _⟩ (fun H locs hP hD hS => ?_)
    have hP : va_P G vwCl (cat [[(L 6 0, .inr (2, [.ref (L 6 1), .int ((0 : Int32))]))], [(L 6 1, .inl (cyO, 6, .inr (.inr (.inr (.inr (fun k => some (L k 0)))))))], dyW cyI (L 0) (dCopy (DD 0) D), dyW cyI (L 1) (DD 1), dyW cyI (L 2) (DD 2), dyW cyI (L 3) (DD 3), dyW cyI (L 4) (DD 4), dyW cyI (L 5) (DD 5), dyW cyI A D]) H := hP
    have hD : va_D A9 (cat [[(L 6 0, .inr (2, [.ref (L 6 1), .int ((0 : Int32))]))], [(L 6 1, .inl (cyO, 6, .inr (.inr (.inr (.inr (fun k => some (L k 0)))))))], dyW cyI (L 0) (dCopy (DD 0) D), dyW cyI (L 1) (DD 1), dyW cyI (L 2) (DD 2), dyW cyI (L 3) (DD 3), dyW cyI (L 4) (DD 4), dyW cyI (L 5) (DD 5), dyW cyI A D]) := hD
    refine lv_aload_n hx hb dX2_save_45 rfl (lv_at hl 1 rfl) ?_
    refine lv_dup hx hb dX2_save_46 rfl ?_
    refine va_get (v := .int ((0 : Int32))) (C := RX2) (T := TX2) (N := 2) hx hb hts hinX2 hown hK hP 0 rfl rfl 1 (by decide) hf17 (fun _ h9 => h9) rfl dX2_save_47 ?_
    refine lv_iconst (v := (1 : Int32)) hx hb dX2_save_50 (by decide) ?_
    refine lv_iadd hx hb dX2_save_51 ?_
    refine top_i (x' := nI (0 + 1)) (nI_add (0) (1)) ?_
    refine va_put (v := .int (nI (0 + 1))) (ty := .int) (C := RX2) (T := TX2) (N := 2) hx hb hts hinX2 tyX2 tyX2_ok nmX2 hown hK hP hD hS 0 rfl rfl 1 (by decide) hf17 (fun _ h9 => h9) rfl (by first | rfl | decide +kernel) rfl rfl (Nat.le_of_ble_eq_true rfl) dX2_save_52 (fun H locs hP hD hS => ?_)
    have hP : va_P G vwCl (cat [[(L 6 0, .inr (2, [.ref (L 6 1), .int (nI (0 + 1))]))], [(L 6 1, .inl (cyO, 6, .inr (.inr (.inr (.inr (fun k => some (L k 0)))))))], dyW cyI (L 0) (dCopy (DD 0) D), dyW cyI (L 1) (DD 1), dyW cyI (L 2) (DD 2), dyW cyI (L 3) (DD 3), dyW cyI (L 4) (DD 4), dyW cyI (L 5) (DD 5), dyW cyI A D]) H := hP
    have hD : va_D A9 (cat [[(L 6 0, .inr (2, [.ref (L 6 1), .int (nI (0 + 1))]))], [(L 6 1, .inl (cyO, 6, .inr (.inr (.inr (.inr (fun k => some (L k 0)))))))], dyW cyI (L 0) (dCopy (DD 0) D), dyW cyI (L 1) (DD 1), dyW cyI (L 2) (DD 2), dyW cyI (L 3) (DD 3), dyW cyI (L 4) (DD 4), dyW cyI (L 5) (DD 5), dyW cyI A D]) := hD
    have hP : va_P G vwCl (cat [hiW cyI cyO L ((1, va_up DD 0 (dCopy (DD 0) D))), dyW cyI A D]) H := hP
    have hD : va_D A9 (cat [hiW cyI cyO L ((1, va_up DD 0 (dCopy (DD 0) D))), dyW cyI A D]) := hD
    exact end_v hx hb hr hlocks hK hP hD hS dX2_save_55
  · exact absurd c_9 (by decide)
set_option maxHeartbeats 4000000 in
set_option maxRecDepth 100000 in
theorem c_X2_save1 (l : Launch) (G : va_G) (cyI cyO : ClassId) (L : Nat → Nat → Nat) (DD : Nat → DS) (A : Nat → Nat) (D : DS) : CV l G (TY cyI cyO) yX2_save wsX2_save rm_X2_save [.ref (L 6 0), .ref (A 0)] [hiW cyI cyO L ((1, DD)), dyW cyI A D] [hiW cyI cyO L ((2, va_up DD 1 (dCopy (DD 1) D))), dyW cyI A D] := by
  refine wk_V (cc := cX2_save) (maxL := 3) (ret := none) (by decide) rfl (Nat.le_of_ble_eq_true rfl) ?_
  intro p9 e9 s9 m9 b9 t9 c9 A9 ls hx hb hr hts hown hlocks hml hK hA hD hP hl hS hnm
  have hl : lv_has ls 3 [(0, .ref (L 6 0)), (1, .ref (A 0))] := hl
  have hinX2 : ∀ w ∈ wsX20, w ∈ wsX2_save := by decide +kernel
  have hf11 := hts (.fieldLink RX2 11 "DoorstepRounds$History" "saved" "[LDoorstepRounds$Dairy;") (by decide +kernel)
  have hf17 := hts (.fieldLink RX2 17 "DoorstepRounds$History" "count" "I") (by decide +kernel)
  have hP : va_P G vwCl (cat [[(L 6 0, .inr (2, [.ref (L 6 1), .int ((1 : Int32))]))], [(L 6 1, .inl (cyO, 6, .inr (.inr (.inr (.inr (fun k => some (L k 0)))))))], dyW cyI (L 0) (DD 0), dyW cyI (L 1) (DD 1), dyW cyI (L 2) (DD 2), dyW cyI (L 3) (DD 3), dyW cyI (L 4) (DD 4), dyW cyI (L 5) (DD 5), dyW cyI A D]) s9.heap := hP
  have hD : va_D A9 (cat [[(L 6 0, .inr (2, [.ref (L 6 1), .int ((1 : Int32))]))], [(L 6 1, .inl (cyO, 6, .inr (.inr (.inr (.inr (fun k => some (L k 0)))))))], dyW cyI (L 0) (DD 0), dyW cyI (L 1) (DD 1), dyW cyI (L 2) (DD 2), dyW cyI (L 3) (DD 3), dyW cyI (L 4) (DD 4), dyW cyI (L 5) (DD 5), dyW cyI A D]) := hD
  refine lv_aload_n hx hb dX2_save_0 rfl (lv_at hl 0 rfl) ?_
  refine va_get (v := .int ((1 : Int32))) (C := RX2) (T := TX2) (N := 2) hx hb hts hinX2 hown hK hP 0 rfl rfl 1 (by decide) hf17 (fun _ h9 => h9) rfl dX2_save_1 ?_
  refine lv_aload_n hx hb dX2_save_4 rfl (lv_at hl 0 rfl) ?_
  refine va_get (v := .ref (L 6 1)) (C := RX2) (T := TX2) (N := 2) hx hb hts hinX2 hown hK hP 0 rfl rfl 0 (by decide) hf11 (fun _ h9 => h9) rfl dX2_save_5 ?_
  refine va_alen (v := (6 : Int32)) hx hb hK hP 1 1 rfl rfl rfl dX2_save_8 ?_
  refine lv_icmp_lt (tgt := 27) hx hb dX2_save_9 (by decide) (fun c_9 => ?_) (fun c_9 => ?_)
  · refine lv_aload_n hx hb dX2_save_27 rfl (lv_at hl 0 rfl) ?_
    refine lv_aload_n hx hb dX2_save_28 rfl (lv_at hl 0 rfl) ?_
    refine va_get (v := .int ((1 : Int32))) (C := RX2) (T := TX2) (N := 2) hx hb hts hinX2 hown hK hP 0 rfl rfl 1 (by decide) hf17 (fun _ h9 => h9) rfl dX2_save_29 ?_
    refine gVr (gs := [[(L 6 0, .inr (2, [.ref (L 6 1), .int ((1 : Int32))]))], [(L 6 1, .inl (cyO, 6, .inr (.inr (.inr (.inr (fun k => some (L k 0)))))))], dyW cyI (L 0) (DD 0), dyW cyI (L 1) (DD 1), dyW cyI (L 2) (DD 2), dyW cyI (L 3) (DD 3), dyW cyI (L 4) (DD 4), dyW cyI (L 5) (DD 5), dyW cyI A D]) (As := [.int ((1 : Int32))]) (rest := []) ⟨hx, hb, hml, hown, hts⟩ (c_X2_savedAt l G cyI cyO (L 6 0) (L 6 1) 1 (L 1 0) ((1 : Int32)) (fun k => some (L k 0)) (by omega) (rfl)) (cwV 1 hts gX2_save_X2_savedAt rfl rfl rfl (by decide +kernel) ⟨Nat.le_of_ble_eq_true rfl, Nat.le_of_ble_eq_true rfl⟩) hK hP hD hS hA [0, 1] rfl rfl rfl 0 2 rfl rfl rfl hl.1 rfl (Nat.le_of_ble_eq_true rfl) dX2_save_32 ⟨Nat.le_refl _, Nat.le_refl _⟩ (fun H locs hP hD hS => ?_)
    have hP : va_P G vwCl (cat [[(L 6 0, .inr (2, [.ref (L 6 1), .int ((1 : Int32))]))], [(L 6 1, .inl (cyO, 6, .inr (.inr (.inr (.inr (fun k => some (L k 0)))))))], dyW cyI (L 0) (DD 0), dyW cyI (L 1) (DD 1), dyW cyI (L 2) (DD 2), dyW cyI (L 3) (DD 3), dyW cyI (L 4) (DD 4), dyW cyI (L 5) (DD 5), dyW cyI A D]) H := hP
    have hD : va_D A9 (cat [[(L 6 0, .inr (2, [.ref (L 6 1), .int ((1 : Int32))]))], [(L 6 1, .inl (cyO, 6, .inr (.inr (.inr (.inr (fun k => some (L k 0)))))))], dyW cyI (L 0) (DD 0), dyW cyI (L 1) (DD 1), dyW cyI (L 2) (DD 2), dyW cyI (L 3) (DD 3), dyW cyI (L 4) (DD 4), dyW cyI (L 5) (DD 5), dyW cyI A D]) := hD
    refine lv_astore_n (lv' := [(2, .ref (L 1 0)), (0, .ref (L 6 0)), (1, .ref (A 0))]) hx hb dX2_save_35 rfl hl (by decide) rfl (fun ls hl => ?_)
    refine lv_aload_n hx hb dX2_save_36 rfl (lv_at hl 0 rfl) ?_
    refine lv_ifnull hx hb dX2_save_37 ?_
    refine lv_aload_n hx hb dX2_save_40 rfl (lv_at hl 0 rfl) ?_
    refine lv_aload_n hx hb dX2_save_41 rfl (lv_at hl 2 rfl) ?_
    refine gVv (gs := [[(L 6 0, .inr (2, [.ref (L 6 1), .int ((1 : Int32))]))], [(L 6 1, .inl (cyO, 6, .inr (.inr (.inr (.inr (fun k => some (L k 0)))))))], dyW cyI (L 0) (DD 0), dyW cyI (L 1) (DD 1), dyW cyI (L 2) (DD 2), dyW cyI (L 3) (DD 3), dyW cyI (L 4) (DD 4), dyW cyI (L 5) (DD 5), dyW cyI A D]) (As := [.ref (A 0)]) (rest := []) ⟨hx, hb, hml, hown, hts⟩ (c_X1_copyFrom l G cyI cyO (L 1) A (DD 1) D) (cwV 1 hts gX2_save_X1_copyFrom rfl rfl rfl (by decide +kernel) ⟨Nat.le_of_ble_eq_true rfl, Nat.le_of_ble_eq_true rfl⟩) hK hP hD hS hA [3, 8] rfl rfl rfl 0 1 rfl rfl rfl hl.1 rfl (Nat.le_of_ble_eq_true rfl) dX2_save_42 ⟨Nat.le_refl _, Nat.le_refl _⟩ (fun H locs hP hD hS => ?_)
    have hP : va_P G vwCl (cat [[(L 6 0, .inr (2, [.ref (L 6 1), .int ((1 : Int32))]))], [(L 6 1, .inl (cyO, 6, .inr (.inr (.inr (.inr (fun k => some (L k 0)))))))], dyW cyI (L 0) (DD 0), dyW cyI (L 1) (dCopy (DD 1) D), dyW cyI (L 2) (DD 2), dyW cyI (L 3) (DD 3), dyW cyI (L 4) (DD 4), dyW cyI (L 5) (DD 5), dyW cyI A D]) H := hP
    have hD : va_D A9 (cat [[(L 6 0, .inr (2, [.ref (L 6 1), .int ((1 : Int32))]))], [(L 6 1, .inl (cyO, 6, .inr (.inr (.inr (.inr (fun k => some (L k 0)))))))], dyW cyI (L 0) (DD 0), dyW cyI (L 1) (dCopy (DD 1) D), dyW cyI (L 2) (DD 2), dyW cyI (L 3) (DD 3), dyW cyI (L 4) (DD 4), dyW cyI (L 5) (DD 5), dyW cyI A D]) := hD
    refine lv_aload_n hx hb dX2_save_45 rfl (lv_at hl 1 rfl) ?_
    refine lv_dup hx hb dX2_save_46 rfl ?_
    refine va_get (v := .int ((1 : Int32))) (C := RX2) (T := TX2) (N := 2) hx hb hts hinX2 hown hK hP 0 rfl rfl 1 (by decide) hf17 (fun _ h9 => h9) rfl dX2_save_47 ?_
    refine lv_iconst (v := (1 : Int32)) hx hb dX2_save_50 (by decide) ?_
    refine lv_iadd hx hb dX2_save_51 ?_
    refine top_i (x' := nI (1 + 1)) (nI_add (1) (1)) ?_
    refine va_put (v := .int (nI (1 + 1))) (ty := .int) (C := RX2) (T := TX2) (N := 2) hx hb hts hinX2 tyX2 tyX2_ok nmX2 hown hK hP hD hS 0 rfl rfl 1 (by decide) hf17 (fun _ h9 => h9) rfl (by first | rfl | decide +kernel) rfl rfl (Nat.le_of_ble_eq_true rfl) dX2_save_52 (fun H locs hP hD hS => ?_)
    have hP : va_P G vwCl (cat [[(L 6 0, .inr (2, [.ref (L 6 1), .int (nI (1 + 1))]))], [(L 6 1, .inl (cyO, 6, .inr (.inr (.inr (.inr (fun k => some (L k 0)))))))], dyW cyI (L 0) (DD 0), dyW cyI (L 1) (dCopy (DD 1) D), dyW cyI (L 2) (DD 2), dyW cyI (L 3) (DD 3), dyW cyI (L 4) (DD 4), dyW cyI (L 5) (DD 5), dyW cyI A D]) H := hP
    have hD : va_D A9 (cat [[(L 6 0, .inr (2, [.ref (L 6 1), .int (nI (1 + 1))]))], [(L 6 1, .inl (cyO, 6, .inr (.inr (.inr (.inr (fun k => some (L k 0)))))))], dyW cyI (L 0) (DD 0), dyW cyI (L 1) (dCopy (DD 1) D), dyW cyI (L 2) (DD 2), dyW cyI (L 3) (DD 3), dyW cyI (L 4) (DD 4), dyW cyI (L 5) (DD 5), dyW cyI A D]) := hD
    have hP : va_P G vwCl (cat [hiW cyI cyO L ((2, va_up DD 1 (dCopy (DD 1) D))), dyW cyI A D]) H := hP
    have hD : va_D A9 (cat [hiW cyI cyO L ((2, va_up DD 1 (dCopy (DD 1) D))), dyW cyI A D]) := hD
    exact end_v hx hb hr hlocks hK hP hD hS dX2_save_55
  · exact absurd c_9 (by decide)
set_option maxHeartbeats 4000000 in
set_option maxRecDepth 100000 in
theorem c_X2_save2 (l : Launch) (G : va_G) (cyI cyO : ClassId) (L : Nat → Nat → Nat) (DD : Nat → DS) (A : Nat → Nat) (D : DS) : CV l G (TY cyI cyO) yX2_save wsX2_save rm_X2_save [.ref (L 6 0), .ref (A 0)] [hiW cyI cyO L ((2, DD)), dyW cyI A D] [hiW cyI cyO L ((3, va_up DD 2 (dCopy (DD 2) D))), dyW cyI A D] := by
  refine wk_V (cc := cX2_save) (maxL := 3) (ret := none) (by decide) rfl (Nat.le_of_ble_eq_true rfl) ?_
  intro p9 e9 s9 m9 b9 t9 c9 A9 ls hx hb hr hts hown hlocks hml hK hA hD hP hl hS hnm
  have hl : lv_has ls 3 [(0, .ref (L 6 0)), (1, .ref (A 0))] := hl
  have hinX2 : ∀ w ∈ wsX20, w ∈ wsX2_save := by decide +kernel
  have hf11 := hts (.fieldLink RX2 11 "DoorstepRounds$History" "saved" "[LDoorstepRounds$Dairy;") (by decide +kernel)
  have hf17 := hts (.fieldLink RX2 17 "DoorstepRounds$History" "count" "I") (by decide +kernel)
  have hP : va_P G vwCl (cat [[(L 6 0, .inr (2, [.ref (L 6 1), .int ((2 : Int32))]))], [(L 6 1, .inl (cyO, 6, .inr (.inr (.inr (.inr (fun k => some (L k 0)))))))], dyW cyI (L 0) (DD 0), dyW cyI (L 1) (DD 1), dyW cyI (L 2) (DD 2), dyW cyI (L 3) (DD 3), dyW cyI (L 4) (DD 4), dyW cyI (L 5) (DD 5), dyW cyI A D]) s9.heap := hP
  have hD : va_D A9 (cat [[(L 6 0, .inr (2, [.ref (L 6 1), .int ((2 : Int32))]))], [(L 6 1, .inl (cyO, 6, .inr (.inr (.inr (.inr (fun k => some (L k 0)))))))], dyW cyI (L 0) (DD 0), dyW cyI (L 1) (DD 1), dyW cyI (L 2) (DD 2), dyW cyI (L 3) (DD 3), dyW cyI (L 4) (DD 4), dyW cyI (L 5) (DD 5), dyW cyI A D]) := hD
  refine lv_aload_n hx hb dX2_save_0 rfl (lv_at hl 0 rfl) ?_
  refine va_get (v := .int ((2 : Int32))) (C := RX2) (T := TX2) (N := 2) hx hb hts hinX2 hown hK hP 0 rfl rfl 1 (by decide) hf17 (fun _ h9 => h9) rfl dX2_save_1 ?_
  refine lv_aload_n hx hb dX2_save_4 rfl (lv_at hl 0 rfl) ?_
  refine va_get (v := .ref (L 6 1)) (C := RX2) (T := TX2) (N := 2) hx hb hts hinX2 hown hK hP 0 rfl rfl 0 (by decide) hf11 (fun _ h9 => h9) rfl dX2_save_5 ?_
  refine va_alen (v := (6 : Int32)) hx hb hK hP 1 1 rfl rfl rfl dX2_save_8 ?_
  refine lv_icmp_lt (tgt := 27) hx hb dX2_save_9 (by decide) (fun c_9 => ?_) (fun c_9 => ?_)
  · refine lv_aload_n hx hb dX2_save_27 rfl (lv_at hl 0 rfl) ?_
    refine lv_aload_n hx hb dX2_save_28 rfl (lv_at hl 0 rfl) ?_
    refine va_get (v := .int ((2 : Int32))) (C := RX2) (T := TX2) (N := 2) hx hb hts hinX2 hown hK hP 0 rfl rfl 1 (by decide) hf17 (fun _ h9 => h9) rfl dX2_save_29 ?_
    refine gVr (gs := [[(L 6 0, .inr (2, [.ref (L 6 1), .int ((2 : Int32))]))], [(L 6 1, .inl (cyO, 6, .inr (.inr (.inr (.inr (fun k => some (L k 0)))))))], dyW cyI (L 0) (DD 0), dyW cyI (L 1) (DD 1), dyW cyI (L 2) (DD 2), dyW cyI (L 3) (DD 3), dyW cyI (L 4) (DD 4), dyW cyI (L 5) (DD 5), dyW cyI A D]) (As := [.int ((2 : Int32))]) (rest := []) ⟨hx, hb, hml, hown, hts⟩ (c_X2_savedAt l G cyI cyO (L 6 0) (L 6 1) 2 (L 2 0) ((2 : Int32)) (fun k => some (L k 0)) (by omega) (rfl)) (cwV 1 hts gX2_save_X2_savedAt rfl rfl rfl (by decide +kernel) ⟨Nat.le_of_ble_eq_true rfl, Nat.le_of_ble_eq_true rfl⟩) hK hP hD hS hA [0, 1] rfl rfl rfl 0 2 rfl rfl rfl hl.1 rfl (Nat.le_of_ble_eq_true rfl) dX2_save_32 ⟨Nat.le_refl _, Nat.le_refl _⟩ (fun H locs hP hD hS => ?_)
    have hP : va_P G vwCl (cat [[(L 6 0, .inr (2, [.ref (L 6 1), .int ((2 : Int32))]))], [(L 6 1, .inl (cyO, 6, .inr (.inr (.inr (.inr (fun k => some (L k 0)))))))], dyW cyI (L 0) (DD 0), dyW cyI (L 1) (DD 1), dyW cyI (L 2) (DD 2), dyW cyI (L 3) (DD 3), dyW cyI (L 4) (DD 4), dyW cyI (L 5) (DD 5), dyW cyI A D]) H := hP
    have hD : va_D A9 (cat [[(L 6 0, .inr (2, [.ref (L 6 1), .int ((2 : Int32))]))], [(L 6 1, .inl (cyO, 6, .inr (.inr (.inr (.inr (fun k => some (L k 0)))))))], dyW cyI (L 0) (DD 0), dyW cyI (L 1) (DD 1), dyW cyI (L 2) (DD 2), dyW cyI (L 3) (DD 3), dyW cyI (L 4) (DD 4), dyW cyI (L 5) (DD 5), dyW cyI A D]) := hD
    refine lv_astore_n (lv' := [(2, .ref (L 2 0)), (0, .ref (L 6 0)), (1, .ref (A 0))]) hx hb dX2_save_35 rfl hl (by decide) rfl (fun ls hl => ?_)
    refine lv_aload_n hx hb dX2_save_36 rfl (lv_at hl 0 rfl) ?_
    refine lv_ifnull hx hb dX2_save_37 ?_
    refine lv_aload_n hx hb dX2_save_40 rfl (lv_at hl 0 rfl) ?_
    refine lv_aload_n hx hb dX2_save_41 rfl (lv_at hl 2 rfl) ?_
    refine gVv (gs := [[(L 6 0, .inr (2, [.ref (L 6 1), .int ((2 : Int32))]))], [(L 6 1, .inl (cyO, 6, .inr (.inr (.inr (.inr (fun k => some (L k 0)))))))], dyW cyI (L 0) (DD 0), dyW cyI (L 1) (DD 1), dyW cyI (L 2) (DD 2), dyW cyI (L 3) (DD 3), dyW cyI (L 4) (DD 4), dyW cyI (L 5) (DD 5), dyW cyI A D]) (As := [.ref (A 0)]) (rest := []) ⟨hx, hb, hml, hown, hts⟩ (c_X1_copyFrom l G cyI cyO (L 2) A (DD 2) D) (cwV 1 hts gX2_save_X1_copyFrom rfl rfl rfl (by decide +kernel) ⟨Nat.le_of_ble_eq_true rfl, Nat.le_of_ble_eq_true rfl⟩) hK hP hD hS hA [4, 8] rfl rfl rfl 0 1 rfl rfl rfl hl.1 rfl (Nat.le_of_ble_eq_true rfl) dX2_save_42 ⟨Nat.le_refl _, Nat.le_refl _⟩ (fun H locs hP hD hS => ?_)
    have hP : va_P G vwCl (cat [[(L 6 0, .inr (2, [.ref (L 6 1), .int ((2 : Int32))]))], [(L 6 1, .inl (cyO, 6, .inr (.inr (.inr (.inr (fun k => some (L k 0)))))))], dyW cyI (L 0) (DD 0), dyW cyI (L 1) (DD 1), dyW cyI (L 2) (dCopy (DD 2) D), dyW cyI (L 3) (DD 3), dyW cyI (L 4) (DD 4), dyW cyI (L 5) (DD 5), dyW cyI A D]) H := hP
    have hD : va_D A9 (cat [[(L 6 0, .inr (2, [.ref (L 6 1), .int ((2 : Int32))]))], [(L 6 1, .inl (cyO, 6, .inr (.inr (.inr (.inr (fun k => some (L k 0)))))))], dyW cyI (L 0) (DD 0), dyW cyI (L 1) (DD 1), dyW cyI (L 2) (dCopy (DD 2) D), dyW cyI (L 3) (DD 3), dyW cyI (L 4) (DD 4), dyW cyI (L 5) (DD 5), dyW cyI A D]) := hD
    refine lv_aload_n hx hb dX2_save_45 rfl (lv_at hl 1 rfl) ?_
    refine lv_dup hx hb dX2_save_46 rfl ?_
    refine va_get (v := .int ((2 : Int32))) (C := RX2) (T := TX2) (N := 2) hx hb hts hinX2 hown hK hP 0 rfl rfl 1 (by decide) hf17 (fun _ h9 => h9) rfl dX2_save_47 ?_
    refine lv_iconst (v := (1 : Int32)) hx hb dX2_save_50 (by decide) ?_
    refine lv_iadd hx hb dX2_save_51 ?_
    refine top_i (x' := nI (2 + 1)) (nI_add (2) (1)) ?_
    refine va_put (v := .int (nI (2 + 1))) (ty := .int) (C := RX2) (T := TX2) (N := 2) hx hb hts hinX2 tyX2 tyX2_ok nmX2 hown hK hP hD hS 0 rfl rfl 1 (by decide) hf17 (fun _ h9 => h9) rfl (by first | rfl | decide +kernel) rfl rfl (Nat.le_of_ble_eq_true rfl) dX2_save_52 (fun H locs hP hD hS => ?_)
    have hP : va_P G vwCl (cat [[(L 6 0, .inr (2, [.ref (L 6 1), .int (nI (2 + 1))]))], [(L 6 1, .inl (cyO, 6, .inr (.inr (.inr (.inr (fun k => some (L k 0)))))))], dyW cyI (L 0) (DD 0), dyW cyI (L 1) (DD 1), dyW cyI (L 2) (dCopy (DD 2) D), dyW cyI (L 3) (DD 3), dyW cyI (L 4) (DD 4), dyW cyI (L 5) (DD 5), dyW cyI A D]) H := hP
    have hD : va_D A9 (cat [[(L 6 0, .inr (2, [.ref (L 6 1), .int (nI (2 + 1))]))], [(L 6 1, .inl (cyO, 6, .inr (.inr (.inr (.inr (fun k => some (L k 0)))))))], dyW cyI (L 0) (DD 0), dyW cyI (L 1) (DD 1), dyW cyI (L 2) (dCopy (DD 2) D), dyW cyI (L 3) (DD 3), dyW cyI (L 4) (DD 4), dyW cyI (L 5) (DD 5), dyW cyI A D]) := hD
    have hP : va_P G vwCl (cat [hiW cyI cyO L ((3, va_up DD 2 (dCopy (DD 2) D))), dyW cyI A D]) H := hP
    have hD : va_D A9 (cat [hiW cyI cyO L ((3, va_up DD 2 (dCopy (DD 2) D))), dyW cyI A D]) := hD
    exact end_v hx hb hr hlocks hK hP hD hS dX2_save_55
  · exact absurd c_9 (by decide)
set_option maxHeartbeats 4000000 in
set_option maxRecDepth 100000 in
theorem c_X2_save3 (l : Launch) (G : va_G) (cyI cyO : ClassId) (L : Nat → Nat → Nat) (DD : Nat → DS) (A : Nat → Nat) (D : DS) : CV l G (TY cyI cyO) yX2_save wsX2_save rm_X2_save [.ref (L 6 0), .ref (A 0)] [hiW cyI cyO L ((3, DD)), dyW cyI A D] [hiW cyI cyO L ((4, va_up DD 3 (dCopy (DD 3) D))), dyW cyI A D] := by
  refine wk_V (cc := cX2_save) (maxL := 3) (ret := none) (by decide) rfl (Nat.le_of_ble_eq_true rfl) ?_
  intro p9 e9 s9 m9 b9 t9 c9 A9 ls hx hb hr hts hown hlocks hml hK hA hD hP hl hS hnm
  have hl : lv_has ls 3 [(0, .ref (L 6 0)), (1, .ref (A 0))] := hl
  have hinX2 : ∀ w ∈ wsX20, w ∈ wsX2_save := by decide +kernel
  have hf11 := hts (.fieldLink RX2 11 "DoorstepRounds$History" "saved" "[LDoorstepRounds$Dairy;") (by decide +kernel)
  have hf17 := hts (.fieldLink RX2 17 "DoorstepRounds$History" "count" "I") (by decide +kernel)
  have hP : va_P G vwCl (cat [[(L 6 0, .inr (2, [.ref (L 6 1), .int ((3 : Int32))]))], [(L 6 1, .inl (cyO, 6, .inr (.inr (.inr (.inr (fun k => some (L k 0)))))))], dyW cyI (L 0) (DD 0), dyW cyI (L 1) (DD 1), dyW cyI (L 2) (DD 2), dyW cyI (L 3) (DD 3), dyW cyI (L 4) (DD 4), dyW cyI (L 5) (DD 5), dyW cyI A D]) s9.heap := hP
  have hD : va_D A9 (cat [[(L 6 0, .inr (2, [.ref (L 6 1), .int ((3 : Int32))]))], [(L 6 1, .inl (cyO, 6, .inr (.inr (.inr (.inr (fun k => some (L k 0)))))))], dyW cyI (L 0) (DD 0), dyW cyI (L 1) (DD 1), dyW cyI (L 2) (DD 2), dyW cyI (L 3) (DD 3), dyW cyI (L 4) (DD 4), dyW cyI (L 5) (DD 5), dyW cyI A D]) := hD
  refine lv_aload_n hx hb dX2_save_0 rfl (lv_at hl 0 rfl) ?_
  refine va_get (v := .int ((3 : Int32))) (C := RX2) (T := TX2) (N := 2) hx hb hts hinX2 hown hK hP 0 rfl rfl 1 (by decide) hf17 (fun _ h9 => h9) rfl dX2_save_1 ?_
  refine lv_aload_n hx hb dX2_save_4 rfl (lv_at hl 0 rfl) ?_
  refine va_get (v := .ref (L 6 1)) (C := RX2) (T := TX2) (N := 2) hx hb hts hinX2 hown hK hP 0 rfl rfl 0 (by decide) hf11 (fun _ h9 => h9) rfl dX2_save_5 ?_
  refine va_alen (v := (6 : Int32)) hx hb hK hP 1 1 rfl rfl rfl dX2_save_8 ?_
  refine lv_icmp_lt (tgt := 27) hx hb dX2_save_9 (by decide) (fun c_9 => ?_) (fun c_9 => ?_)
  · refine lv_aload_n hx hb dX2_save_27 rfl (lv_at hl 0 rfl) ?_
    refine lv_aload_n hx hb dX2_save_28 rfl (lv_at hl 0 rfl) ?_
    refine va_get (v := .int ((3 : Int32))) (C := RX2) (T := TX2) (N := 2) hx hb hts hinX2 hown hK hP 0 rfl rfl 1 (by decide) hf17 (fun _ h9 => h9) rfl dX2_save_29 ?_
    refine gVr (gs := [[(L 6 0, .inr (2, [.ref (L 6 1), .int ((3 : Int32))]))], [(L 6 1, .inl (cyO, 6, .inr (.inr (.inr (.inr (fun k => some (L k 0)))))))], dyW cyI (L 0) (DD 0), dyW cyI (L 1) (DD 1), dyW cyI (L 2) (DD 2), dyW cyI (L 3) (DD 3), dyW cyI (L 4) (DD 4), dyW cyI (L 5) (DD 5), dyW cyI A D]) (As := [.int ((3 : Int32))]) (rest := []) ⟨hx, hb, hml, hown, hts⟩ (c_X2_savedAt l G cyI cyO (L 6 0) (L 6 1) 3 (L 3 0) ((3 : Int32)) (fun k => some (L k 0)) (by omega) (rfl)) (cwV 1 hts gX2_save_X2_savedAt rfl rfl rfl (by decide +kernel) ⟨Nat.le_of_ble_eq_true rfl, Nat.le_of_ble_eq_true rfl⟩) hK hP hD hS hA [0, 1] rfl rfl rfl 0 2 rfl rfl rfl hl.1 rfl (Nat.le_of_ble_eq_true rfl) dX2_save_32 ⟨Nat.le_refl _, Nat.le_refl _⟩ (fun H locs hP hD hS => ?_)
    have hP : va_P G vwCl (cat [[(L 6 0, .inr (2, [.ref (L 6 1), .int ((3 : Int32))]))], [(L 6 1, .inl (cyO, 6, .inr (.inr (.inr (.inr (fun k => some (L k 0)))))))], dyW cyI (L 0) (DD 0), dyW cyI (L 1) (DD 1), dyW cyI (L 2) (DD 2), dyW cyI (L 3) (DD 3), dyW cyI (L 4) (DD 4), dyW cyI (L 5) (DD 5), dyW cyI A D]) H := hP
    have hD : va_D A9 (cat [[(L 6 0, .inr (2, [.ref (L 6 1), .int ((3 : Int32))]))], [(L 6 1, .inl (cyO, 6, .inr (.inr (.inr (.inr (fun k => some (L k 0)))))))], dyW cyI (L 0) (DD 0), dyW cyI (L 1) (DD 1), dyW cyI (L 2) (DD 2), dyW cyI (L 3) (DD 3), dyW cyI (L 4) (DD 4), dyW cyI (L 5) (DD 5), dyW cyI A D]) := hD
    refine lv_astore_n (lv' := [(2, .ref (L 3 0)), (0, .ref (L 6 0)), (1, .ref (A 0))]) hx hb dX2_save_35 rfl hl (by decide) rfl (fun ls hl => ?_)
    refine lv_aload_n hx hb dX2_save_36 rfl (lv_at hl 0 rfl) ?_
    refine lv_ifnull hx hb dX2_save_37 ?_
    refine lv_aload_n hx hb dX2_save_40 rfl (lv_at hl 0 rfl) ?_
    refine lv_aload_n hx hb dX2_save_41 rfl (lv_at hl 2 rfl) ?_
    refine gVv (gs := [[(L 6 0, .inr (2, [.ref (L 6 1), .int ((3 : Int32))]))], [(L 6 1, .inl (cyO, 6, .inr (.inr (.inr (.inr (fun k => some (L k 0)))))))], dyW cyI (L 0) (DD 0), dyW cyI (L 1) (DD 1), dyW cyI (L 2) (DD 2), dyW cyI (L 3) (DD 3), dyW cyI (L 4) (DD 4), dyW cyI (L 5) (DD 5), dyW cyI A D]) (As := [.ref (A 0)]) (rest := []) ⟨hx, hb, hml, hown, hts⟩ (c_X1_copyFrom l G cyI cyO (L 3) A (DD 3) D) (cwV 1 hts gX2_save_X1_copyFrom rfl rfl rfl (by decide +kernel) ⟨Nat.le_of_ble_eq_true rfl, Nat.le_of_ble_eq_true rfl⟩) hK hP hD hS hA [5, 8] rfl rfl rfl 0 1 rfl rfl rfl hl.1 rfl (Nat.le_of_ble_eq_true rfl) dX2_save_42 ⟨Nat.le_refl _, Nat.le_refl _⟩ (fun H locs hP hD hS => ?_)
    have hP : va_P G vwCl (cat [[(L 6 0, .inr (2, [.ref (L 6 1), .int ((3 : Int32))]))], [(L 6 1, .inl (cyO, 6, .inr (.inr (.inr (.inr (fun k => some (L k 0)))))))], dyW cyI (L 0) (DD 0), dyW cyI (L 1) (DD 1), dyW cyI (L 2) (DD 2), dyW cyI (L 3) (dCopy (DD 3) D), dyW cyI (L 4) (DD 4), dyW cyI (L 5) (DD 5), dyW cyI A D]) H := hP
    have hD : va_D A9 (cat [[(L 6 0, .inr (2, [.ref (L 6 1), .int ((3 : Int32))]))], [(L 6 1, .inl (cyO, 6, .inr (.inr (.inr (.inr (fun k => some (L k 0)))))))], dyW cyI (L 0) (DD 0), dyW cyI (L 1) (DD 1), dyW cyI (L 2) (DD 2), dyW cyI (L 3) (dCopy (DD 3) D), dyW cyI (L 4) (DD 4), dyW cyI (L 5) (DD 5), dyW cyI A D]) := hD
    refine lv_aload_n hx hb dX2_save_45 rfl (lv_at hl 1 rfl) ?_
    refine lv_dup hx hb dX2_save_46 rfl ?_
    refine va_get (v := .int ((3 : Int32))) (C := RX2) (T := TX2) (N := 2) hx hb hts hinX2 hown hK hP 0 rfl rfl 1 (by decide) hf17 (fun _ h9 => h9) rfl dX2_save_47 ?_
    refine lv_iconst (v := (1 : Int32)) hx hb dX2_save_50 (by decide) ?_
    refine lv_iadd hx hb dX2_save_51 ?_
    refine top_i (x' := nI (3 + 1)) (nI_add (3) (1)) ?_
    refine va_put (v := .int (nI (3 + 1))) (ty := .int) (C := RX2) (T := TX2) (N := 2) hx hb hts hinX2 tyX2 tyX2_ok nmX2 hown hK hP hD hS 0 rfl rfl 1 (by decide) hf17 (fun _ h9 => h9) rfl (by first | rfl | decide +kernel) rfl rfl (Nat.le_of_ble_eq_true rfl) dX2_save_52 (fun H locs hP hD hS => ?_)
    have hP : va_P G vwCl (cat [[(L 6 0, .inr (2, [.ref (L 6 1), .int (nI (3 + 1))]))], [(L 6 1, .inl (cyO, 6, .inr (.inr (.inr (.inr (fun k => some (L k 0)))))))], dyW cyI (L 0) (DD 0), dyW cyI (L 1) (DD 1), dyW cyI (L 2) (DD 2), dyW cyI (L 3) (dCopy (DD 3) D), dyW cyI (L 4) (DD 4), dyW cyI (L 5) (DD 5), dyW cyI A D]) H := hP
    have hD : va_D A9 (cat [[(L 6 0, .inr (2, [.ref (L 6 1), .int (nI (3 + 1))]))], [(L 6 1, .inl (cyO, 6, .inr (.inr (.inr (.inr (fun k => some (L k 0)))))))], dyW cyI (L 0) (DD 0), dyW cyI (L 1) (DD 1), dyW cyI (L 2) (DD 2), dyW cyI (L 3) (dCopy (DD 3) D), dyW cyI (L 4) (DD 4), dyW cyI (L 5) (DD 5), dyW cyI A D]) := hD
    have hP : va_P G vwCl (cat [hiW cyI cyO L ((4, va_up DD 3 (dCopy (DD 3) D))), dyW cyI A D]) H := hP
    have hD : va_D A9 (cat [hiW cyI cyO L ((4, va_up DD 3 (dCopy (DD 3) D))), dyW cyI A D]) := hD
    exact end_v hx hb hr hlocks hK hP hD hS dX2_save_55
  · exact absurd c_9 (by decide)
set_option maxHeartbeats 4000000 in
set_option maxRecDepth 100000 in
theorem c_X2_save4 (l : Launch) (G : va_G) (cyI cyO : ClassId) (L : Nat → Nat → Nat) (DD : Nat → DS) (A : Nat → Nat) (D : DS) : CV l G (TY cyI cyO) yX2_save wsX2_save rm_X2_save [.ref (L 6 0), .ref (A 0)] [hiW cyI cyO L ((4, DD)), dyW cyI A D] [hiW cyI cyO L ((5, va_up DD 4 (dCopy (DD 4) D))), dyW cyI A D] := by
  refine wk_V (cc := cX2_save) (maxL := 3) (ret := none) (by decide) rfl (Nat.le_of_ble_eq_true rfl) ?_
  intro p9 e9 s9 m9 b9 t9 c9 A9 ls hx hb hr hts hown hlocks hml hK hA hD hP hl hS hnm
  have hl : lv_has ls 3 [(0, .ref (L 6 0)), (1, .ref (A 0))] := hl
  have hinX2 : ∀ w ∈ wsX20, w ∈ wsX2_save := by decide +kernel
  have hf11 := hts (.fieldLink RX2 11 "DoorstepRounds$History" "saved" "[LDoorstepRounds$Dairy;") (by decide +kernel)
  have hf17 := hts (.fieldLink RX2 17 "DoorstepRounds$History" "count" "I") (by decide +kernel)
  have hP : va_P G vwCl (cat [[(L 6 0, .inr (2, [.ref (L 6 1), .int ((4 : Int32))]))], [(L 6 1, .inl (cyO, 6, .inr (.inr (.inr (.inr (fun k => some (L k 0)))))))], dyW cyI (L 0) (DD 0), dyW cyI (L 1) (DD 1), dyW cyI (L 2) (DD 2), dyW cyI (L 3) (DD 3), dyW cyI (L 4) (DD 4), dyW cyI (L 5) (DD 5), dyW cyI A D]) s9.heap := hP
  have hD : va_D A9 (cat [[(L 6 0, .inr (2, [.ref (L 6 1), .int ((4 : Int32))]))], [(L 6 1, .inl (cyO, 6, .inr (.inr (.inr (.inr (fun k => some (L k 0)))))))], dyW cyI (L 0) (DD 0), dyW cyI (L 1) (DD 1), dyW cyI (L 2) (DD 2), dyW cyI (L 3) (DD 3), dyW cyI (L 4) (DD 4), dyW cyI (L 5) (DD 5), dyW cyI A D]) := hD
  refine lv_aload_n hx hb dX2_save_0 rfl (lv_at hl 0 rfl) ?_
  refine va_get (v := .int ((4 : Int32))) (C := RX2) (T := TX2) (N := 2) hx hb hts hinX2 hown hK hP 0 rfl rfl 1 (by decide) hf17 (fun _ h9 => h9) rfl dX2_save_1 ?_
  refine lv_aload_n hx hb dX2_save_4 rfl (lv_at hl 0 rfl) ?_
  refine va_get (v := .ref (L 6 1)) (C := RX2) (T := TX2) (N := 2) hx hb hts hinX2 hown hK hP 0 rfl rfl 0 (by decide) hf11 (fun _ h9 => h9) rfl dX2_save_5 ?_
  refine va_alen (v := (6 : Int32)) hx hb hK hP 1 1 rfl rfl rfl dX2_save_8 ?_
  refine lv_icmp_lt (tgt := 27) hx hb dX2_save_9 (by decide) (fun c_9 => ?_) (fun c_9 => ?_)
  · refine lv_aload_n hx hb dX2_save_27 rfl (lv_at hl 0 rfl) ?_
    refine lv_aload_n hx hb dX2_save_28 rfl (lv_at hl 0 rfl) ?_
    refine va_get (v := .int ((4 : Int32))) (C := RX2) (T := TX2) (N := 2) hx hb hts hinX2 hown hK hP 0 rfl rfl 1 (by decide) hf17 (fun _ h9 => h9) rfl dX2_save_29 ?_
    refine gVr (gs := [[(L 6 0, .inr (2, [.ref (L 6 1), .int ((4 : Int32))]))], [(L 6 1, .inl (cyO, 6, .inr (.inr (.inr (.inr (fun k => some (L k 0)))))))], dyW cyI (L 0) (DD 0), dyW cyI (L 1) (DD 1), dyW cyI (L 2) (DD 2), dyW cyI (L 3) (DD 3), dyW cyI (L 4) (DD 4), dyW cyI (L 5) (DD 5), dyW cyI A D]) (As := [.int ((4 : Int32))]) (rest := []) ⟨hx, hb, hml, hown, hts⟩ (c_X2_savedAt l G cyI cyO (L 6 0) (L 6 1) 4 (L 4 0) ((4 : Int32)) (fun k => some (L k 0)) (by omega) (rfl)) (cwV 1 hts gX2_save_X2_savedAt rfl rfl rfl (by decide +kernel) ⟨Nat.le_of_ble_eq_true rfl, Nat.le_of_ble_eq_true rfl⟩) hK hP hD hS hA [0, 1] rfl rfl rfl 0 2 rfl rfl rfl hl.1 rfl (Nat.le_of_ble_eq_true rfl) dX2_save_32 ⟨Nat.le_refl _, Nat.le_refl _⟩ (fun H locs hP hD hS => ?_)
    have hP : va_P G vwCl (cat [[(L 6 0, .inr (2, [.ref (L 6 1), .int ((4 : Int32))]))], [(L 6 1, .inl (cyO, 6, .inr (.inr (.inr (.inr (fun k => some (L k 0)))))))], dyW cyI (L 0) (DD 0), dyW cyI (L 1) (DD 1), dyW cyI (L 2) (DD 2), dyW cyI (L 3) (DD 3), dyW cyI (L 4) (DD 4), dyW cyI (L 5) (DD 5), dyW cyI A D]) H := hP
    have hD : va_D A9 (cat [[(L 6 0, .inr (2, [.ref (L 6 1), .int ((4 : Int32))]))], [(L 6 1, .inl (cyO, 6, .inr (.inr (.inr (.inr (fun k => some (L k 0)))))))], dyW cyI (L 0) (DD 0), dyW cyI (L 1) (DD 1), dyW cyI (L 2) (DD 2), dyW cyI (L 3) (DD 3), dyW cyI (L 4) (DD 4), dyW cyI (L 5) (DD 5), dyW cyI A D]) := hD
    refine lv_astore_n (lv' := [(2, .ref (L 4 0)), (0, .ref (L 6 0)), (1, .ref (A 0))]) hx hb dX2_save_35 rfl hl (by decide) rfl (fun ls hl => ?_)
    refine lv_aload_n hx hb dX2_save_36 rfl (lv_at hl 0 rfl) ?_
    refine lv_ifnull hx hb dX2_save_37 ?_
    refine lv_aload_n hx hb dX2_save_40 rfl (lv_at hl 0 rfl) ?_
    refine lv_aload_n hx hb dX2_save_41 rfl (lv_at hl 2 rfl) ?_
    refine gVv (gs := [[(L 6 0, .inr (2, [.ref (L 6 1), .int ((4 : Int32))]))], [(L 6 1, .inl (cyO, 6, .inr (.inr (.inr (.inr (fun k => some (L k 0)))))))], dyW cyI (L 0) (DD 0), dyW cyI (L 1) (DD 1), dyW cyI (L 2) (DD 2), dyW cyI (L 3) (DD 3), dyW cyI (L 4) (DD 4), dyW cyI (L 5) (DD 5), dyW cyI A D]) (As := [.ref (A 0)]) (rest := []) ⟨hx, hb, hml, hown, hts⟩ (c_X1_copyFrom l G cyI cyO (L 4) A (DD 4) D) (cwV 1 hts gX2_save_X1_copyFrom rfl rfl rfl (by decide +kernel) ⟨Nat.le_of_ble_eq_true rfl, Nat.le_of_ble_eq_true rfl⟩) hK hP hD hS hA [6, 8] rfl rfl rfl 0 1 rfl rfl rfl hl.1 rfl (Nat.le_of_ble_eq_true rfl) dX2_save_42 ⟨Nat.le_refl _, Nat.le_refl _⟩ (fun H locs hP hD hS => ?_)
    have hP : va_P G vwCl (cat [[(L 6 0, .inr (2, [.ref (L 6 1), .int ((4 : Int32))]))], [(L 6 1, .inl (cyO, 6, .inr (.inr (.inr (.inr (fun k => some (L k 0)))))))], dyW cyI (L 0) (DD 0), dyW cyI (L 1) (DD 1), dyW cyI (L 2) (DD 2), dyW cyI (L 3) (DD 3), dyW cyI (L 4) (dCopy (DD 4) D), dyW cyI (L 5) (DD 5), dyW cyI A D]) H := hP
    have hD : va_D A9 (cat [[(L 6 0, .inr (2, [.ref (L 6 1), .int ((4 : Int32))]))], [(L 6 1, .inl (cyO, 6, .inr (.inr (.inr (.inr (fun k => some (L k 0)))))))], dyW cyI (L 0) (DD 0), dyW cyI (L 1) (DD 1), dyW cyI (L 2) (DD 2), dyW cyI (L 3) (DD 3), dyW cyI (L 4) (dCopy (DD 4) D), dyW cyI (L 5) (DD 5), dyW cyI A D]) := hD
    refine lv_aload_n hx hb dX2_save_45 rfl (lv_at hl 1 rfl) ?_
    refine lv_dup hx hb dX2_save_46 rfl ?_
    refine va_get (v := .int ((4 : Int32))) (C := RX2) (T := TX2) (N := 2) hx hb hts hinX2 hown hK hP 0 rfl rfl 1 (by decide) hf17 (fun _ h9 => h9) rfl dX2_save_47 ?_
    refine lv_iconst (v := (1 : Int32)) hx hb dX2_save_50 (by decide) ?_
    refine lv_iadd hx hb dX2_save_51 ?_
    refine top_i (x' := nI (4 + 1)) (nI_add (4) (1)) ?_
    refine va_put (v := .int (nI (4 + 1))) (ty := .int) (C := RX2) (T := TX2) (N := 2) hx hb hts hinX2 tyX2 tyX2_ok nmX2 hown hK hP hD hS 0 rfl rfl 1 (by decide) hf17 (fun _ h9 => h9) rfl (by first | rfl | decide +kernel) rfl rfl (Nat.le_of_ble_eq_true rfl) dX2_save_52 (fun H locs hP hD hS => ?_)
    have hP : va_P G vwCl (cat [[(L 6 0, .inr (2, [.ref (L 6 1), .int (nI (4 + 1))]))], [(L 6 1, .inl (cyO, 6, .inr (.inr (.inr (.inr (fun k => some (L k 0)))))))], dyW cyI (L 0) (DD 0), dyW cyI (L 1) (DD 1), dyW cyI (L 2) (DD 2), dyW cyI (L 3) (DD 3), dyW cyI (L 4) (dCopy (DD 4) D), dyW cyI (L 5) (DD 5), dyW cyI A D]) H := hP
    have hD : va_D A9 (cat [[(L 6 0, .inr (2, [.ref (L 6 1), .int (nI (4 + 1))]))], [(L 6 1, .inl (cyO, 6, .inr (.inr (.inr (.inr (fun k => some (L k 0)))))))], dyW cyI (L 0) (DD 0), dyW cyI (L 1) (DD 1), dyW cyI (L 2) (DD 2), dyW cyI (L 3) (DD 3), dyW cyI (L 4) (dCopy (DD 4) D), dyW cyI (L 5) (DD 5), dyW cyI A D]) := hD
    have hP : va_P G vwCl (cat [hiW cyI cyO L ((5, va_up DD 4 (dCopy (DD 4) D))), dyW cyI A D]) H := hP
    have hD : va_D A9 (cat [hiW cyI cyO L ((5, va_up DD 4 (dCopy (DD 4) D))), dyW cyI A D]) := hD
    exact end_v hx hb hr hlocks hK hP hD hS dX2_save_55
  · exact absurd c_9 (by decide)
set_option maxHeartbeats 4000000 in
set_option maxRecDepth 100000 in
theorem c_X2_save5 (l : Launch) (G : va_G) (cyI cyO : ClassId) (L : Nat → Nat → Nat) (DD : Nat → DS) (A : Nat → Nat) (D : DS) : CV l G (TY cyI cyO) yX2_save wsX2_save rm_X2_save [.ref (L 6 0), .ref (A 0)] [hiW cyI cyO L ((5, DD)), dyW cyI A D] [hiW cyI cyO L ((6, va_up DD 5 (dCopy (DD 5) D))), dyW cyI A D] := by
  refine wk_V (cc := cX2_save) (maxL := 3) (ret := none) (by decide) rfl (Nat.le_of_ble_eq_true rfl) ?_
  intro p9 e9 s9 m9 b9 t9 c9 A9 ls hx hb hr hts hown hlocks hml hK hA hD hP hl hS hnm
  have hl : lv_has ls 3 [(0, .ref (L 6 0)), (1, .ref (A 0))] := hl
  have hinX2 : ∀ w ∈ wsX20, w ∈ wsX2_save := by decide +kernel
  have hf11 := hts (.fieldLink RX2 11 "DoorstepRounds$History" "saved" "[LDoorstepRounds$Dairy;") (by decide +kernel)
  have hf17 := hts (.fieldLink RX2 17 "DoorstepRounds$History" "count" "I") (by decide +kernel)
  have hP : va_P G vwCl (cat [[(L 6 0, .inr (2, [.ref (L 6 1), .int ((5 : Int32))]))], [(L 6 1, .inl (cyO, 6, .inr (.inr (.inr (.inr (fun k => some (L k 0)))))))], dyW cyI (L 0) (DD 0), dyW cyI (L 1) (DD 1), dyW cyI (L 2) (DD 2), dyW cyI (L 3) (DD 3), dyW cyI (L 4) (DD 4), dyW cyI (L 5) (DD 5), dyW cyI A D]) s9.heap := hP
  have hD : va_D A9 (cat [[(L 6 0, .inr (2, [.ref (L 6 1), .int ((5 : Int32))]))], [(L 6 1, .inl (cyO, 6, .inr (.inr (.inr (.inr (fun k => some (L k 0)))))))], dyW cyI (L 0) (DD 0), dyW cyI (L 1) (DD 1), dyW cyI (L 2) (DD 2), dyW cyI (L 3) (DD 3), dyW cyI (L 4) (DD 4), dyW cyI (L 5) (DD 5), dyW cyI A D]) := hD
  refine lv_aload_n hx hb dX2_save_0 rfl (lv_at hl 0 rfl) ?_
  refine va_get (v := .int ((5 : Int32))) (C := RX2) (T := TX2) (N := 2) hx hb hts hinX2 hown hK hP 0 rfl rfl 1 (by decide) hf17 (fun _ h9 => h9) rfl dX2_save_1 ?_
  refine lv_aload_n hx hb dX2_save_4 rfl (lv_at hl 0 rfl) ?_
  refine va_get (v := .ref (L 6 1)) (C := RX2) (T := TX2) (N := 2) hx hb hts hinX2 hown hK hP 0 rfl rfl 0 (by decide) hf11 (fun _ h9 => h9) rfl dX2_save_5 ?_
  refine va_alen (v := (6 : Int32)) hx hb hK hP 1 1 rfl rfl rfl dX2_save_8 ?_
  refine lv_icmp_lt (tgt := 27) hx hb dX2_save_9 (by decide) (fun c_9 => ?_) (fun c_9 => ?_)
  · refine lv_aload_n hx hb dX2_save_27 rfl (lv_at hl 0 rfl) ?_
    refine lv_aload_n hx hb dX2_save_28 rfl (lv_at hl 0 rfl) ?_
    refine va_get (v := .int ((5 : Int32))) (C := RX2) (T := TX2) (N := 2) hx hb hts hinX2 hown hK hP 0 rfl rfl 1 (by decide) hf17 (fun _ h9 => h9) rfl dX2_save_29 ?_
    refine gVr (gs := [[(L 6 0, .inr (2, [.ref (L 6 1), .int ((5 : Int32))]))], [(L 6 1, .inl (cyO, 6, .inr (.inr (.inr (.inr (fun k => some (L k 0)))))))], dyW cyI (L 0) (DD 0), dyW cyI (L 1) (DD 1), dyW cyI (L 2) (DD 2), dyW cyI (L 3) (DD 3), dyW cyI (L 4) (DD 4), dyW cyI (L 5) (DD 5), dyW cyI A D]) (As := [.int ((5 : Int32))]) (rest := []) ⟨hx, hb, hml, hown, hts⟩ (c_X2_savedAt l G cyI cyO (L 6 0) (L 6 1) 5 (L 5 0) ((5 : Int32)) (fun k => some (L k 0)) (by omega) (rfl)) (cwV 1 hts gX2_save_X2_savedAt rfl rfl rfl (by decide +kernel) ⟨Nat.le_of_ble_eq_true rfl, Nat.le_of_ble_eq_true rfl⟩) hK hP hD hS hA [0, 1] rfl rfl rfl 0 2 rfl rfl rfl hl.1 rfl (Nat.le_of_ble_eq_true rfl) dX2_save_32 ⟨Nat.le_refl _, Nat.le_refl _⟩ (fun H locs hP hD hS => ?_)
    have hP : va_P G vwCl (cat [[(L 6 0, .inr (2, [.ref (L 6 1), .int ((5 : Int32))]))], [(L 6 1, .inl (cyO, 6, .inr (.inr (.inr (.inr (fun k => some (L k 0)))))))], dyW cyI (L 0) (DD 0), dyW cyI (L 1) (DD 1), dyW cyI (L 2) (DD 2), dyW cyI (L 3) (DD 3), dyW cyI (L 4) (DD 4), dyW cyI (L 5) (DD 5), dyW cyI A D]) H := hP
    have hD : va_D A9 (cat [[(L 6 0, .inr (2, [.ref (L 6 1), .int ((5 : Int32))]))], [(L 6 1, .inl (cyO, 6, .inr (.inr (.inr (.inr (fun k => some (L k 0)))))))], dyW cyI (L 0) (DD 0), dyW cyI (L 1) (DD 1), dyW cyI (L 2) (DD 2), dyW cyI (L 3) (DD 3), dyW cyI (L 4) (DD 4), dyW cyI (L 5) (DD 5), dyW cyI A D]) := hD
    refine lv_astore_n (lv' := [(2, .ref (L 5 0)), (0, .ref (L 6 0)), (1, .ref (A 0))]) hx hb dX2_save_35 rfl hl (by decide) rfl (fun ls hl => ?_)
    refine lv_aload_n hx hb dX2_save_36 rfl (lv_at hl 0 rfl) ?_
    refine lv_ifnull hx hb dX2_save_37 ?_
    refine lv_aload_n hx hb dX2_save_40 rfl (lv_at hl 0 rfl) ?_
    refine lv_aload_n hx hb dX2_save_41 rfl (lv_at hl 2 rfl) ?_
    refine gVv (gs := [[(L 6 0, .inr (2, [.ref (L 6 1), .int ((5 : Int32))]))], [(L 6 1, .inl (cyO, 6, .inr (.inr (.inr (.inr (fun k => some (L k 0)))))))], dyW cyI (L 0) (DD 0), dyW cyI (L 1) (DD 1), dyW cyI (L 2) (DD 2), dyW cyI (L 3) (DD 3), dyW cyI (L 4) (DD 4), dyW cyI (L 5) (DD 5), dyW cyI A D]) (As := [.ref (A 0)]) (rest := []) ⟨hx, hb, hml, hown, hts⟩ (c_X1_copyFrom l G cyI cyO (L 5) A (DD 5) D) (cwV 1 hts gX2_save_X1_copyFrom rfl rfl rfl (by decide +kernel) ⟨Nat.le_of_ble_eq_true rfl, Nat.le_of_ble_eq_true rfl⟩) hK hP hD hS hA [7, 8] rfl rfl rfl 0 1 rfl rfl rfl hl.1 rfl (Nat.le_of_ble_eq_true rfl) dX2_save_42 ⟨Nat.le_refl _, Nat.le_refl _⟩ (fun H locs hP hD hS => ?_)
    have hP : va_P G vwCl (cat [[(L 6 0, .inr (2, [.ref (L 6 1), .int ((5 : Int32))]))], [(L 6 1, .inl (cyO, 6, .inr (.inr (.inr (.inr (fun k => some (L k 0)))))))], dyW cyI (L 0) (DD 0), dyW cyI (L 1) (DD 1), dyW cyI (L 2) (DD 2), dyW cyI (L 3) (DD 3), dyW cyI (L 4) (DD 4), dyW cyI (L 5) (dCopy (DD 5) D), dyW cyI A D]) H := hP
    have hD : va_D A9 (cat [[(L 6 0, .inr (2, [.ref (L 6 1), .int ((5 : Int32))]))], [(L 6 1, .inl (cyO, 6, .inr (.inr (.inr (.inr (fun k => some (L k 0)))))))], dyW cyI (L 0) (DD 0), dyW cyI (L 1) (DD 1), dyW cyI (L 2) (DD 2), dyW cyI (L 3) (DD 3), dyW cyI (L 4) (DD 4), dyW cyI (L 5) (dCopy (DD 5) D), dyW cyI A D]) := hD
    refine lv_aload_n hx hb dX2_save_45 rfl (lv_at hl 1 rfl) ?_
    refine lv_dup hx hb dX2_save_46 rfl ?_
    refine va_get (v := .int ((5 : Int32))) (C := RX2) (T := TX2) (N := 2) hx hb hts hinX2 hown hK hP 0 rfl rfl 1 (by decide) hf17 (fun _ h9 => h9) rfl dX2_save_47 ?_
    refine lv_iconst (v := (1 : Int32)) hx hb dX2_save_50 (by decide) ?_
    refine lv_iadd hx hb dX2_save_51 ?_
    refine top_i (x' := nI (5 + 1)) (nI_add (5) (1)) ?_
    refine va_put (v := .int (nI (5 + 1))) (ty := .int) (C := RX2) (T := TX2) (N := 2) hx hb hts hinX2 tyX2 tyX2_ok nmX2 hown hK hP hD hS 0 rfl rfl 1 (by decide) hf17 (fun _ h9 => h9) rfl (by first | rfl | decide +kernel) rfl rfl (Nat.le_of_ble_eq_true rfl) dX2_save_52 (fun H locs hP hD hS => ?_)
    have hP : va_P G vwCl (cat [[(L 6 0, .inr (2, [.ref (L 6 1), .int (nI (5 + 1))]))], [(L 6 1, .inl (cyO, 6, .inr (.inr (.inr (.inr (fun k => some (L k 0)))))))], dyW cyI (L 0) (DD 0), dyW cyI (L 1) (DD 1), dyW cyI (L 2) (DD 2), dyW cyI (L 3) (DD 3), dyW cyI (L 4) (DD 4), dyW cyI (L 5) (dCopy (DD 5) D), dyW cyI A D]) H := hP
    have hD : va_D A9 (cat [[(L 6 0, .inr (2, [.ref (L 6 1), .int (nI (5 + 1))]))], [(L 6 1, .inl (cyO, 6, .inr (.inr (.inr (.inr (fun k => some (L k 0)))))))], dyW cyI (L 0) (DD 0), dyW cyI (L 1) (DD 1), dyW cyI (L 2) (DD 2), dyW cyI (L 3) (DD 3), dyW cyI (L 4) (DD 4), dyW cyI (L 5) (dCopy (DD 5) D), dyW cyI A D]) := hD
    have hP : va_P G vwCl (cat [hiW cyI cyO L ((6, va_up DD 5 (dCopy (DD 5) D))), dyW cyI A D]) H := hP
    have hD : va_D A9 (cat [hiW cyI cyO L ((6, va_up DD 5 (dCopy (DD 5) D))), dyW cyI A D]) := hD
    exact end_v hx hb hr hlocks hK hP hD hS dX2_save_55
  · exact absurd c_9 (by decide)
set_option maxHeartbeats 4000000 in
set_option maxRecDepth 100000 in
theorem c_X2_save6 (l : Launch) (G : va_G) (cyI cyO : ClassId) (L : Nat → Nat → Nat) (DD : Nat → DS) (A : Nat → Nat) (D : DS) : CV l G (TY cyI cyO) yX2_save wsX2_save rm_X2_save [.ref (L 6 0), .ref (A 0)] [hiW cyI cyO L ((6, DD)), dyW cyI A D] [hiW cyI cyO (rotL L) ((6, rotD DD D)), dyW cyI A D] := by
  refine wk_V (cc := cX2_save) (maxL := 3) (ret := none) (by decide) rfl (Nat.le_of_ble_eq_true rfl) ?_
  intro p9 e9 s9 m9 b9 t9 c9 A9 ls hx hb hr hts hown hlocks hml hK hA hD hP hl hS hnm
  have hl : lv_has ls 3 [(0, .ref (L 6 0)), (1, .ref (A 0))] := hl
  have hinX2 : ∀ w ∈ wsX20, w ∈ wsX2_save := by decide +kernel
  have hf11 := hts (.fieldLink RX2 11 "DoorstepRounds$History" "saved" "[LDoorstepRounds$Dairy;") (by decide +kernel)
  have hf17 := hts (.fieldLink RX2 17 "DoorstepRounds$History" "count" "I") (by decide +kernel)
  have hP : va_P G vwCl (cat [[(L 6 0, .inr (2, [.ref (L 6 1), .int ((6 : Int32))]))], [(L 6 1, .inl (cyO, 6, .inr (.inr (.inr (.inr (fun k => some (L k 0)))))))], dyW cyI (L 0) (DD 0), dyW cyI (L 1) (DD 1), dyW cyI (L 2) (DD 2), dyW cyI (L 3) (DD 3), dyW cyI (L 4) (DD 4), dyW cyI (L 5) (DD 5), dyW cyI A D]) s9.heap := hP
  have hD : va_D A9 (cat [[(L 6 0, .inr (2, [.ref (L 6 1), .int ((6 : Int32))]))], [(L 6 1, .inl (cyO, 6, .inr (.inr (.inr (.inr (fun k => some (L k 0)))))))], dyW cyI (L 0) (DD 0), dyW cyI (L 1) (DD 1), dyW cyI (L 2) (DD 2), dyW cyI (L 3) (DD 3), dyW cyI (L 4) (DD 4), dyW cyI (L 5) (DD 5), dyW cyI A D]) := hD
  refine lv_aload_n hx hb dX2_save_0 rfl (lv_at hl 0 rfl) ?_
  refine va_get (v := .int ((6 : Int32))) (C := RX2) (T := TX2) (N := 2) hx hb hts hinX2 hown hK hP 0 rfl rfl 1 (by decide) hf17 (fun _ h9 => h9) rfl dX2_save_1 ?_
  refine lv_aload_n hx hb dX2_save_4 rfl (lv_at hl 0 rfl) ?_
  refine va_get (v := .ref (L 6 1)) (C := RX2) (T := TX2) (N := 2) hx hb hts hinX2 hown hK hP 0 rfl rfl 0 (by decide) hf11 (fun _ h9 => h9) rfl dX2_save_5 ?_
  refine va_alen (v := (6 : Int32)) hx hb hK hP 1 1 rfl rfl rfl dX2_save_8 ?_
  refine lv_icmp_lt (tgt := 27) hx hb dX2_save_9 (by decide) (fun c_9 => ?_) (fun c_9 => ?_)
  · exact absurd c_9 (by decide)
  · refine lv_aload_n hx hb dX2_save_12 rfl (lv_at hl 0 rfl) ?_
    refine gVv (gs := [[(L 6 0, .inr (2, [.ref (L 6 1), .int ((6 : Int32))]))], [(L 6 1, .inl (cyO, 6, .inr (.inr (.inr (.inr (fun k => some (L k 0)))))))], dyW cyI (L 0) (DD 0), dyW cyI (L 1) (DD 1), dyW cyI (L 2) (DD 2), dyW cyI (L 3) (DD 3), dyW cyI (L 4) (DD 4), dyW cyI (L 5) (DD 5), dyW cyI A D]) (As := []) (rest := []) ⟨hx, hb, hml, hown, hts⟩ (c_X2_moveOldestToEnd l G cyI cyO (L 6 0) (L 6 1) ((6 : Int32)) (fun k => some (L k 0)) (L 0) (L 1) (L 2) (L 3) (L 4) (L 5) (DD 0) (DD 1) (DD 2) (DD 3) (DD 4) (DD 5) (rfl) (rfl) (rfl) (rfl) (rfl) (rfl)) (cwV 0 hts gX2_save_X2_moveOldestToEnd rfl rfl rfl (by decide +kernel) ⟨Nat.le_of_ble_eq_true rfl, Nat.le_of_ble_eq_true rfl⟩) hK hP hD hS hA [0, 1, 2, 3, 4, 5, 6, 7] rfl rfl rfl 0 2 rfl rfl rfl hl.1 rfl (Nat.le_of_ble_eq_true rfl) dX2_save_13 ⟨Nat.le_refl _, Nat.le_refl _⟩ (fun H locs hP hD hS => ?_)
    have hP : va_P G vwCl (cat [[(L 6 0, .inr (2, [.ref (L 6 1), .int ((6 : Int32))]))], [(L 6 1, .inl (cyO, 6, .inr (.inr (.inr (.inr (va_up (va_up (va_up (va_up (va_up (va_up (fun k => some (L k 0)) 0 (some ((L 1) 0))) 1 (some ((L 2) 0))) 2 (some ((L 3) 0))) 3 (some ((L 4) 0))) 4 (some ((L 5) 0))) 5 (some ((L 0) 0))))))))], dyW cyI (L 0) (DD 0), dyW cyI (L 1) (DD 1), dyW cyI (L 2) (DD 2), dyW cyI (L 3) (DD 3), dyW cyI (L 4) (DD 4), dyW cyI (L 5) (DD 5), dyW cyI A D]) H := hP
    have hD : va_D A9 (cat [[(L 6 0, .inr (2, [.ref (L 6 1), .int ((6 : Int32))]))], [(L 6 1, .inl (cyO, 6, .inr (.inr (.inr (.inr (va_up (va_up (va_up (va_up (va_up (va_up (fun k => some (L k 0)) 0 (some ((L 1) 0))) 1 (some ((L 2) 0))) 2 (some ((L 3) 0))) 3 (some ((L 4) 0))) 4 (some ((L 5) 0))) 5 (some ((L 0) 0))))))))], dyW cyI (L 0) (DD 0), dyW cyI (L 1) (DD 1), dyW cyI (L 2) (DD 2), dyW cyI (L 3) (DD 3), dyW cyI (L 4) (DD 4), dyW cyI (L 5) (DD 5), dyW cyI A D]) := hD
    refine lv_aload_n hx hb dX2_save_16 rfl (lv_at hl 0 rfl) ?_
    refine lv_aload_n hx hb dX2_save_17 rfl (lv_at hl 0 rfl) ?_
    refine va_get (v := .ref (L 6 1)) (C := RX2) (T := TX2) (N := 2) hx hb hts hinX2 hown hK hP 0 rfl rfl 0 (by decide) hf11 (fun _ h9 => h9) rfl dX2_save_18 ?_
    refine va_alen (v := (6 : Int32)) hx hb hK hP 1 1 rfl rfl rfl dX2_save_21 ?_
    refine lv_iconst (v := (1 : Int32)) hx hb dX2_save_22 (by decide) ?_
    refine lv_isub hx hb dX2_save_23 ?_
    refine top_i (x' := (5 : Int32)) (by decide) ?_
    refine va_put (v := .int ((5 : Int32))) (ty := .int) (C := RX2) (T := TX2) (N := 2) hx hb hts hinX2 tyX2 tyX2_ok nmX2 hown hK hP hD hS 0 rfl rfl 1 (by decide) hf17 (fun _ h9 => h9) rfl (by first | rfl | decide +kernel) rfl rfl (Nat.le_of_ble_eq_true rfl) dX2_save_24 (fun H locs hP hD hS => ?_)
    have hP : va_P G vwCl (cat [[(L 6 0, .inr (2, [.ref (L 6 1), .int ((5 : Int32))]))], [(L 6 1, .inl (cyO, 6, .inr (.inr (.inr (.inr (va_up (va_up (va_up (va_up (va_up (va_up (fun k => some (L k 0)) 0 (some ((L 1) 0))) 1 (some ((L 2) 0))) 2 (some ((L 3) 0))) 3 (some ((L 4) 0))) 4 (some ((L 5) 0))) 5 (some ((L 0) 0))))))))], dyW cyI (L 0) (DD 0), dyW cyI (L 1) (DD 1), dyW cyI (L 2) (DD 2), dyW cyI (L 3) (DD 3), dyW cyI (L 4) (DD 4), dyW cyI (L 5) (DD 5), dyW cyI A D]) H := hP
    have hD : va_D A9 (cat [[(L 6 0, .inr (2, [.ref (L 6 1), .int ((5 : Int32))]))], [(L 6 1, .inl (cyO, 6, .inr (.inr (.inr (.inr (va_up (va_up (va_up (va_up (va_up (va_up (fun k => some (L k 0)) 0 (some ((L 1) 0))) 1 (some ((L 2) 0))) 2 (some ((L 3) 0))) 3 (some ((L 4) 0))) 4 (some ((L 5) 0))) 5 (some ((L 0) 0))))))))], dyW cyI (L 0) (DD 0), dyW cyI (L 1) (DD 1), dyW cyI (L 2) (DD 2), dyW cyI (L 3) (DD 3), dyW cyI (L 4) (DD 4), dyW cyI (L 5) (DD 5), dyW cyI A D]) := hD
    refine lv_aload_n hx hb dX2_save_27 rfl (lv_at hl 0 rfl) ?_
    refine lv_aload_n hx hb dX2_save_28 rfl (lv_at hl 0 rfl) ?_
    refine va_get (v := .int ((5 : Int32))) (C := RX2) (T := TX2) (N := 2) hx hb hts hinX2 hown hK hP 0 rfl rfl 1 (by decide) hf17 (fun _ h9 => h9) rfl dX2_save_29 ?_
    refine gVr (gs := [[(L 6 0, .inr (2, [.ref (L 6 1), .int ((5 : Int32))]))], [(L 6 1, .inl (cyO, 6, .inr (.inr (.inr (.inr (va_up (va_up (va_up (va_up (va_up (va_up (fun k => some (L k 0)) 0 (some ((L 1) 0))) 1 (some ((L 2) 0))) 2 (some ((L 3) 0))) 3 (some ((L 4) 0))) 4 (some ((L 5) 0))) 5 (some ((L 0) 0))))))))], dyW cyI (L 0) (DD 0), dyW cyI (L 1) (DD 1), dyW cyI (L 2) (DD 2), dyW cyI (L 3) (DD 3), dyW cyI (L 4) (DD 4), dyW cyI (L 5) (DD 5), dyW cyI A D]) (As := [.int ((5 : Int32))]) (rest := []) ⟨hx, hb, hml, hown, hts⟩ (c_X2_savedAt l G cyI cyO (L 6 0) (L 6 1) 5 (L 0 0) ((5 : Int32)) (va_up (va_up (va_up (va_up (va_up (va_up (fun k => some (L k 0)) 0 (some ((L 1) 0))) 1 (some ((L 2) 0))) 2 (some ((L 3) 0))) 3 (some ((L 4) 0))) 4 (some ((L 5) 0))) 5 (some ((L 0) 0))) (by omega) (by simp [va_up])) (cwV 1 hts gX2_save_X2_savedAt rfl rfl rfl (by decide +kernel) ⟨Nat.le_of_ble_eq_true rfl, Nat.le_of_ble_eq_true rfl⟩) hK hP hD hS hA [0, 1] rfl rfl rfl 0 2 rfl rfl rfl hl.1 rfl (Nat.le_of_ble_eq_true rfl) dX2_save_32 ⟨Nat.le_refl _, Nat.le_refl _⟩ (fun H locs hP hD hS => ?_)
    have hP : va_P G vwCl (cat [[(L 6 0, .inr (2, [.ref (L 6 1), .int ((5 : Int32))]))], [(L 6 1, .inl (cyO, 6, .inr (.inr (.inr (.inr (va_up (va_up (va_up (va_up (va_up (va_up (fun k => some (L k 0)) 0 (some ((L 1) 0))) 1 (some ((L 2) 0))) 2 (some ((L 3) 0))) 3 (some ((L 4) 0))) 4 (some ((L 5) 0))) 5 (some ((L 0) 0))))))))], dyW cyI (L 0) (DD 0), dyW cyI (L 1) (DD 1), dyW cyI (L 2) (DD 2), dyW cyI (L 3) (DD 3), dyW cyI (L 4) (DD 4), dyW cyI (L 5) (DD 5), dyW cyI A D]) H := hP
    have hD : va_D A9 (cat [[(L 6 0, .inr (2, [.ref (L 6 1), .int ((5 : Int32))]))], [(L 6 1, .inl (cyO, 6, .inr (.inr (.inr (.inr (va_up (va_up (va_up (va_up (va_up (va_up (fun k => some (L k 0)) 0 (some ((L 1) 0))) 1 (some ((L 2) 0))) 2 (some ((L 3) 0))) 3 (some ((L 4) 0))) 4 (some ((L 5) 0))) 5 (some ((L 0) 0))))))))], dyW cyI (L 0) (DD 0), dyW cyI (L 1) (DD 1), dyW cyI (L 2) (DD 2), dyW cyI (L 3) (DD 3), dyW cyI (L 4) (DD 4), dyW cyI (L 5) (DD 5), dyW cyI A D]) := hD
    refine lv_astore_n (lv' := [(2, .ref (L 0 0)), (0, .ref (L 6 0)), (1, .ref (A 0))]) hx hb dX2_save_35 rfl hl (by decide) rfl (fun ls hl => ?_)
    refine lv_aload_n hx hb dX2_save_36 rfl (lv_at hl 0 rfl) ?_
    refine lv_ifnull hx hb dX2_save_37 ?_
    refine lv_aload_n hx hb dX2_save_40 rfl (lv_at hl 0 rfl) ?_
    refine lv_aload_n hx hb dX2_save_41 rfl (lv_at hl 2 rfl) ?_
    refine gVv (gs := [[(L 6 0, .inr (2, [.ref (L 6 1), .int ((5 : Int32))]))], [(L 6 1, .inl (cyO, 6, .inr (.inr (.inr (.inr (va_up (va_up (va_up (va_up (va_up (va_up (fun k => some (L k 0)) 0 (some ((L 1) 0))) 1 (some ((L 2) 0))) 2 (some ((L 3) 0))) 3 (some ((L 4) 0))) 4 (some ((L 5) 0))) 5 (some ((L 0) 0))))))))], dyW cyI (L 0) (DD 0), dyW cyI (L 1) (DD 1), dyW cyI (L 2) (DD 2), dyW cyI (L 3) (DD 3), dyW cyI (L 4) (DD 4), dyW cyI (L 5) (DD 5), dyW cyI A D]) (As := [.ref (A 0)]) (rest := []) ⟨hx, hb, hml, hown, hts⟩ (c_X1_copyFrom l G cyI cyO (L 0) A (DD 0) D) (cwV 1 hts gX2_save_X1_copyFrom rfl rfl rfl (by decide +kernel) ⟨Nat.le_of_ble_eq_true rfl, Nat.le_of_ble_eq_true rfl⟩) hK hP hD hS hA [2, 8] rfl rfl rfl 0 1 rfl rfl rfl hl.1 rfl (Nat.le_of_ble_eq_true rfl) dX2_save_42 ⟨Nat.le_refl _, Nat.le_refl _⟩ (fun H locs hP hD hS => ?_)
    have hP : va_P G vwCl (cat [[(L 6 0, .inr (2, [.ref (L 6 1), .int ((5 : Int32))]))], [(L 6 1, .inl (cyO, 6, .inr (.inr (.inr (.inr (va_up (va_up (va_up (va_up (va_up (va_up (fun k => some (L k 0)) 0 (some ((L 1) 0))) 1 (some ((L 2) 0))) 2 (some ((L 3) 0))) 3 (some ((L 4) 0))) 4 (some ((L 5) 0))) 5 (some ((L 0) 0))))))))], dyW cyI (L 0) (dCopy (DD 0) D), dyW cyI (L 1) (DD 1), dyW cyI (L 2) (DD 2), dyW cyI (L 3) (DD 3), dyW cyI (L 4) (DD 4), dyW cyI (L 5) (DD 5), dyW cyI A D]) H := hP
    have hD : va_D A9 (cat [[(L 6 0, .inr (2, [.ref (L 6 1), .int ((5 : Int32))]))], [(L 6 1, .inl (cyO, 6, .inr (.inr (.inr (.inr (va_up (va_up (va_up (va_up (va_up (va_up (fun k => some (L k 0)) 0 (some ((L 1) 0))) 1 (some ((L 2) 0))) 2 (some ((L 3) 0))) 3 (some ((L 4) 0))) 4 (some ((L 5) 0))) 5 (some ((L 0) 0))))))))], dyW cyI (L 0) (dCopy (DD 0) D), dyW cyI (L 1) (DD 1), dyW cyI (L 2) (DD 2), dyW cyI (L 3) (DD 3), dyW cyI (L 4) (DD 4), dyW cyI (L 5) (DD 5), dyW cyI A D]) := hD
    refine lv_aload_n hx hb dX2_save_45 rfl (lv_at hl 1 rfl) ?_
    refine lv_dup hx hb dX2_save_46 rfl ?_
    refine va_get (v := .int ((5 : Int32))) (C := RX2) (T := TX2) (N := 2) hx hb hts hinX2 hown hK hP 0 rfl rfl 1 (by decide) hf17 (fun _ h9 => h9) rfl dX2_save_47 ?_
    refine lv_iconst (v := (1 : Int32)) hx hb dX2_save_50 (by decide) ?_
    refine lv_iadd hx hb dX2_save_51 ?_
    refine top_i (x' := nI (5 + 1)) (nI_add (5) (1)) ?_
    refine va_put (v := .int (nI (5 + 1))) (ty := .int) (C := RX2) (T := TX2) (N := 2) hx hb hts hinX2 tyX2 tyX2_ok nmX2 hown hK hP hD hS 0 rfl rfl 1 (by decide) hf17 (fun _ h9 => h9) rfl (by first | rfl | decide +kernel) rfl rfl (Nat.le_of_ble_eq_true rfl) dX2_save_52 (fun H locs hP hD hS => ?_)
    have hP : va_P G vwCl (cat [[(L 6 0, .inr (2, [.ref (L 6 1), .int (nI (5 + 1))]))], [(L 6 1, .inl (cyO, 6, .inr (.inr (.inr (.inr (va_up (va_up (va_up (va_up (va_up (va_up (fun k => some (L k 0)) 0 (some ((L 1) 0))) 1 (some ((L 2) 0))) 2 (some ((L 3) 0))) 3 (some ((L 4) 0))) 4 (some ((L 5) 0))) 5 (some ((L 0) 0))))))))], dyW cyI (L 0) (dCopy (DD 0) D), dyW cyI (L 1) (DD 1), dyW cyI (L 2) (DD 2), dyW cyI (L 3) (DD 3), dyW cyI (L 4) (DD 4), dyW cyI (L 5) (DD 5), dyW cyI A D]) H := hP
    have hD : va_D A9 (cat [[(L 6 0, .inr (2, [.ref (L 6 1), .int (nI (5 + 1))]))], [(L 6 1, .inl (cyO, 6, .inr (.inr (.inr (.inr (va_up (va_up (va_up (va_up (va_up (va_up (fun k => some (L k 0)) 0 (some ((L 1) 0))) 1 (some ((L 2) 0))) 2 (some ((L 3) 0))) 3 (some ((L 4) 0))) 4 (some ((L 5) 0))) 5 (some ((L 0) 0))))))))], dyW cyI (L 0) (dCopy (DD 0) D), dyW cyI (L 1) (DD 1), dyW cyI (L 2) (DD 2), dyW cyI (L 3) (DD 3), dyW cyI (L 4) (DD 4), dyW cyI (L 5) (DD 5), dyW cyI A D]) := hD
    have hP := seg_P (gi := [[(L 6 0, .inr (2, [.ref (L 6 1), .int (nI (5 + 1))]))], [(L 6 1, .inl (cyO, 6, .inr (.inr (.inr (.inr (va_up (va_up (va_up (va_up (va_up (va_up (fun k => some (L k 0)) 0 (some ((L 1) 0))) 1 (some ((L 2) 0))) 2 (some ((L 3) 0))) 3 (some ((L 4) 0))) 4 (some ((L 5) 0))) 5 (some ((L 0) 0))))))))], dyW cyI (L 1) (DD 1), dyW cyI (L 2) (DD 2), dyW cyI (L 3) (DD 3), dyW cyI (L 4) (DD 4), dyW cyI (L 5) (DD 5), dyW cyI (L 0) (dCopy (DD 0) D), dyW cyI A D]) hP (is := [0, 1, 3, 4, 5, 6, 7, 2, 8]) rfl rfl
    have hD := seg_D (gi := [[(L 6 0, .inr (2, [.ref (L 6 1), .int (nI (5 + 1))]))], [(L 6 1, .inl (cyO, 6, .inr (.inr (.inr (.inr (va_up (va_up (va_up (va_up (va_up (va_up (fun k => some (L k 0)) 0 (some ((L 1) 0))) 1 (some ((L 2) 0))) 2 (some ((L 3) 0))) 3 (some ((L 4) 0))) 4 (some ((L 5) 0))) 5 (some ((L 0) 0))))))))], dyW cyI (L 1) (DD 1), dyW cyI (L 2) (DD 2), dyW cyI (L 3) (DD 3), dyW cyI (L 4) (DD 4), dyW cyI (L 5) (DD 5), dyW cyI (L 0) (dCopy (DD 0) D), dyW cyI A D]) hD (is := [0, 1, 3, 4, 5, 6, 7, 2, 8]) rfl rfl
    have hP := segq_P (i := 1) rfl (g := fun k => some (rotL L k 0)) (by intro k hk; rcases (show k = 0 ∨ k = 1 ∨ k = 2 ∨ k = 3 ∨ k = 4 ∨ k = 5 by omega) with rfl | rfl | rfl | rfl | rfl | rfl <;> rfl) hP
    have hD := segq_D (i := 1) rfl (g := fun k => some (rotL L k 0)) hD
    have hP : va_P G vwCl (cat [[(L 6 0, .inr (2, [.ref (L 6 1), .int (nI (5 + 1))]))], [(L 6 1, .inl (cyO, 6, .inr (.inr (.inr (.inr (fun k => some (rotL L k 0)))))))], dyW cyI (L 1) (DD 1), dyW cyI (L 2) (DD 2), dyW cyI (L 3) (DD 3), dyW cyI (L 4) (DD 4), dyW cyI (L 5) (DD 5), dyW cyI (L 0) (dCopy (DD 0) D), dyW cyI A D]) H := hP
    have hD : va_D A9 (cat [[(L 6 0, .inr (2, [.ref (L 6 1), .int (nI (5 + 1))]))], [(L 6 1, .inl (cyO, 6, .inr (.inr (.inr (.inr (fun k => some (rotL L k 0)))))))], dyW cyI (L 1) (DD 1), dyW cyI (L 2) (DD 2), dyW cyI (L 3) (DD 3), dyW cyI (L 4) (DD 4), dyW cyI (L 5) (DD 5), dyW cyI (L 0) (dCopy (DD 0) D), dyW cyI A D]) := hD
    have hP : va_P G vwCl (cat [hiW cyI cyO (rotL L) ((6, rotD DD D)), dyW cyI A D]) H := hP
    have hD : va_D A9 (cat [hiW cyI cyO (rotL L) ((6, rotD DD D)), dyW cyI A D]) := hD
    exact end_v hx hb hr hlocks hK hP hD hS dX2_save_55
abbrev rm_X2_restore : Room := { frames := 3, cells := 0, slots := 0, locals := 64 }
set_option maxHeartbeats 4000000 in
set_option maxRecDepth 100000 in
theorem c_X2_restore1 (l : Launch) (G : va_G) (cyI cyO : ClassId) (L : Nat → Nat → Nat) (DD : Nat → DS) (A : Nat → Nat) (D : DS) : CI l G (TY cyI cyO) yX2_restore wsX2_restore rm_X2_restore [.ref (L 6 0), .ref (A 0)] [hiW cyI cyO L ((1, DD)), dyW cyI A D] (nI (0)) [hiW cyI cyO L ((0, DD)), dyW cyI A (dCopy D (DD 0))] := by
  refine wk_I (cc := cX2_restore) (maxL := 3) (ret := (some .int)) (by decide) rfl (Nat.le_of_ble_eq_true rfl) ?_
  intro p9 e9 s9 m9 b9 t9 c9 A9 ls hx hb hr hts hown hlocks hml hK hA hD hP hl hS hnm
  have hl : lv_has ls 3 [(0, .ref (L 6 0)), (1, .ref (A 0))] := hl
  have hinX2 : ∀ w ∈ wsX20, w ∈ wsX2_restore := by decide +kernel
  have hf17 := hts (.fieldLink RX2 17 "DoorstepRounds$History" "count" "I") (by decide +kernel)
  have hP : va_P G vwCl (cat [[(L 6 0, .inr (2, [.ref (L 6 1), .int ((1 : Int32))]))], [(L 6 1, .inl (cyO, 6, .inr (.inr (.inr (.inr (fun k => some (L k 0)))))))], dyW cyI (L 0) (DD 0), dyW cyI (L 1) (DD 1), dyW cyI (L 2) (DD 2), dyW cyI (L 3) (DD 3), dyW cyI (L 4) (DD 4), dyW cyI (L 5) (DD 5), dyW cyI A D]) s9.heap := hP
  have hD : va_D A9 (cat [[(L 6 0, .inr (2, [.ref (L 6 1), .int ((1 : Int32))]))], [(L 6 1, .inl (cyO, 6, .inr (.inr (.inr (.inr (fun k => some (L k 0)))))))], dyW cyI (L 0) (DD 0), dyW cyI (L 1) (DD 1), dyW cyI (L 2) (DD 2), dyW cyI (L 3) (DD 3), dyW cyI (L 4) (DD 4), dyW cyI (L 5) (DD 5), dyW cyI A D]) := hD
  refine lv_aload_n hx hb dX2_restore_0 rfl (lv_at hl 0 rfl) ?_
  refine lv_aload_n hx hb dX2_restore_1 rfl (lv_at hl 0 rfl) ?_
  refine va_get (v := .int ((1 : Int32))) (C := RX2) (T := TX2) (N := 2) hx hb hts hinX2 hown hK hP 0 rfl rfl 1 (by decide) hf17 (fun _ h9 => h9) rfl dX2_restore_2 ?_
  refine lv_iconst (v := (1 : Int32)) hx hb dX2_restore_5 (by decide) ?_
  refine lv_isub hx hb dX2_restore_6 ?_
  refine top_i (x' := (0 : Int32)) (by decide) ?_
  refine gVr (gs := [[(L 6 0, .inr (2, [.ref (L 6 1), .int ((1 : Int32))]))], [(L 6 1, .inl (cyO, 6, .inr (.inr (.inr (.inr (fun k => some (L k 0)))))))], dyW cyI (L 0) (DD 0), dyW cyI (L 1) (DD 1), dyW cyI (L 2) (DD 2), dyW cyI (L 3) (DD 3), dyW cyI (L 4) (DD 4), dyW cyI (L 5) (DD 5), dyW cyI A D]) (As := [.int ((0 : Int32))]) (rest := []) ⟨hx, hb, hml, hown, hts⟩ (c_X2_savedAt l G cyI cyO (L 6 0) (L 6 1) 0 (L 0 0) ((1 : Int32)) (fun k => some (L k 0)) (by omega) (rfl)) (cwV 1 hts gX2_restore_X2_savedAt rfl rfl rfl (by decide +kernel) ⟨Nat.le_of_ble_eq_true rfl, Nat.le_of_ble_eq_true rfl⟩) hK hP hD hS hA [0, 1] rfl rfl rfl 0 2 rfl rfl rfl hl.1 rfl (Nat.le_of_ble_eq_true rfl) dX2_restore_7 ⟨Nat.le_refl _, Nat.le_refl _⟩ (fun H locs hP hD hS => ?_)
  have hP : va_P G vwCl (cat [[(L 6 0, .inr (2, [.ref (L 6 1), .int ((1 : Int32))]))], [(L 6 1, .inl (cyO, 6, .inr (.inr (.inr (.inr (fun k => some (L k 0)))))))], dyW cyI (L 0) (DD 0), dyW cyI (L 1) (DD 1), dyW cyI (L 2) (DD 2), dyW cyI (L 3) (DD 3), dyW cyI (L 4) (DD 4), dyW cyI (L 5) (DD 5), dyW cyI A D]) H := hP
  have hD : va_D A9 (cat [[(L 6 0, .inr (2, [.ref (L 6 1), .int ((1 : Int32))]))], [(L 6 1, .inl (cyO, 6, .inr (.inr (.inr (.inr (fun k => some (L k 0)))))))], dyW cyI (L 0) (DD 0), dyW cyI (L 1) (DD 1), dyW cyI (L 2) (DD 2), dyW cyI (L 3) (DD 3), dyW cyI (L 4) (DD 4), dyW cyI (L 5) (DD 5), dyW cyI A D]) := hD
  refine lv_astore_n (lv' := [(2, .ref (L 0 0)), (0, .ref (L 6 0)), (1, .ref (A 0))]) hx hb dX2_restore_10 rfl hl (by decide) rfl (fun ls hl => ?_)
  refine lv_aload_n hx hb dX2_restore_11 rfl (lv_at hl 0 rfl) ?_
  refine lv_ifnull hx hb dX2_restore_12 ?_
  refine lv_aload_n hx hb dX2_restore_15 rfl (lv_at hl 2 rfl) ?_
  refine lv_aload_n hx hb dX2_restore_16 rfl (lv_at hl 0 rfl) ?_
  refine gVv (gs := [[(L 6 0, .inr (2, [.ref (L 6 1), .int ((1 : Int32))]))], [(L 6 1, .inl (cyO, 6, .inr (.inr (.inr (.inr (fun k => some (L k 0)))))))], dyW cyI (L 0) (DD 0), dyW cyI (L 1) (DD 1), dyW cyI (L 2) (DD 2), dyW cyI (L 3) (DD 3), dyW cyI (L 4) (DD 4), dyW cyI (L 5) (DD 5), dyW cyI A D]) (As := [.ref (L 0 0)]) (rest := []) ⟨hx, hb, hml, hown, hts⟩ (c_X1_copyFrom l G cyI cyO A (L 0) D (DD 0)) (cwV 1 hts gX2_restore_X1_copyFrom rfl rfl rfl (by decide +kernel) ⟨Nat.le_of_ble_eq_true rfl, Nat.le_of_ble_eq_true rfl⟩) hK hP hD hS hA [8, 2] rfl rfl rfl 0 1 rfl rfl rfl hl.1 rfl (Nat.le_of_ble_eq_true rfl) dX2_restore_17 ⟨Nat.le_refl _, Nat.le_refl _⟩ (fun H locs hP hD hS => ?_)
  have hP : va_P G vwCl (cat [[(L 6 0, .inr (2, [.ref (L 6 1), .int ((1 : Int32))]))], [(L 6 1, .inl (cyO, 6, .inr (.inr (.inr (.inr (fun k => some (L k 0)))))))], dyW cyI (L 0) (DD 0), dyW cyI (L 1) (DD 1), dyW cyI (L 2) (DD 2), dyW cyI (L 3) (DD 3), dyW cyI (L 4) (DD 4), dyW cyI (L 5) (DD 5), dyW cyI A (dCopy D (DD 0))]) H := hP
  have hD : va_D A9 (cat [[(L 6 0, .inr (2, [.ref (L 6 1), .int ((1 : Int32))]))], [(L 6 1, .inl (cyO, 6, .inr (.inr (.inr (.inr (fun k => some (L k 0)))))))], dyW cyI (L 0) (DD 0), dyW cyI (L 1) (DD 1), dyW cyI (L 2) (DD 2), dyW cyI (L 3) (DD 3), dyW cyI (L 4) (DD 4), dyW cyI (L 5) (DD 5), dyW cyI A (dCopy D (DD 0))]) := hD
  refine lv_aload_n hx hb dX2_restore_20 rfl (lv_at hl 1 rfl) ?_
  refine lv_dup hx hb dX2_restore_21 rfl ?_
  refine va_get (v := .int ((1 : Int32))) (C := RX2) (T := TX2) (N := 2) hx hb hts hinX2 hown hK hP 0 rfl rfl 1 (by decide) hf17 (fun _ h9 => h9) rfl dX2_restore_22 ?_
  refine lv_iconst (v := (1 : Int32)) hx hb dX2_restore_25 (by decide) ?_
  refine lv_isub hx hb dX2_restore_26 ?_
  refine top_i (x' := (0 : Int32)) (by decide) ?_
  refine va_put (v := .int ((0 : Int32))) (ty := .int) (C := RX2) (T := TX2) (N := 2) hx hb hts hinX2 tyX2 tyX2_ok nmX2 hown hK hP hD hS 0 rfl rfl 1 (by decide) hf17 (fun _ h9 => h9) rfl (by first | rfl | decide +kernel) rfl rfl (Nat.le_of_ble_eq_true rfl) dX2_restore_27 (fun H locs hP hD hS => ?_)
  have hP : va_P G vwCl (cat [[(L 6 0, .inr (2, [.ref (L 6 1), .int ((0 : Int32))]))], [(L 6 1, .inl (cyO, 6, .inr (.inr (.inr (.inr (fun k => some (L k 0)))))))], dyW cyI (L 0) (DD 0), dyW cyI (L 1) (DD 1), dyW cyI (L 2) (DD 2), dyW cyI (L 3) (DD 3), dyW cyI (L 4) (DD 4), dyW cyI (L 5) (DD 5), dyW cyI A (dCopy D (DD 0))]) H := hP
  have hD : va_D A9 (cat [[(L 6 0, .inr (2, [.ref (L 6 1), .int ((0 : Int32))]))], [(L 6 1, .inl (cyO, 6, .inr (.inr (.inr (.inr (fun k => some (L k 0)))))))], dyW cyI (L 0) (DD 0), dyW cyI (L 1) (DD 1), dyW cyI (L 2) (DD 2), dyW cyI (L 3) (DD 3), dyW cyI (L 4) (DD 4), dyW cyI (L 5) (DD 5), dyW cyI A (dCopy D (DD 0))]) := hD
  refine lv_aload_n hx hb dX2_restore_30 rfl (lv_at hl 1 rfl) ?_
  refine va_get (v := .int ((0 : Int32))) (C := RX2) (T := TX2) (N := 2) hx hb hts hinX2 hown hK hP 0 rfl rfl 1 (by decide) hf17 (fun _ h9 => h9) rfl dX2_restore_31 ?_
  have hP : va_P G vwCl (cat [hiW cyI cyO L ((0, DD)), dyW cyI A (dCopy D (DD 0))]) H := hP
  have hD : va_D A9 (cat [hiW cyI cyO L ((0, DD)), dyW cyI A (dCopy D (DD 0))]) := hD
  exact end_i hx hb hr hlocks hK hP hD hS (rfl) dX2_restore_34
set_option maxHeartbeats 4000000 in
set_option maxRecDepth 100000 in
theorem c_X2_restore2 (l : Launch) (G : va_G) (cyI cyO : ClassId) (L : Nat → Nat → Nat) (DD : Nat → DS) (A : Nat → Nat) (D : DS) : CI l G (TY cyI cyO) yX2_restore wsX2_restore rm_X2_restore [.ref (L 6 0), .ref (A 0)] [hiW cyI cyO L ((2, DD)), dyW cyI A D] (nI (1)) [hiW cyI cyO L ((1, DD)), dyW cyI A (dCopy D (DD 1))] := by
  refine wk_I (cc := cX2_restore) (maxL := 3) (ret := (some .int)) (by decide) rfl (Nat.le_of_ble_eq_true rfl) ?_
  intro p9 e9 s9 m9 b9 t9 c9 A9 ls hx hb hr hts hown hlocks hml hK hA hD hP hl hS hnm
  have hl : lv_has ls 3 [(0, .ref (L 6 0)), (1, .ref (A 0))] := hl
  have hinX2 : ∀ w ∈ wsX20, w ∈ wsX2_restore := by decide +kernel
  have hf17 := hts (.fieldLink RX2 17 "DoorstepRounds$History" "count" "I") (by decide +kernel)
  have hP : va_P G vwCl (cat [[(L 6 0, .inr (2, [.ref (L 6 1), .int ((2 : Int32))]))], [(L 6 1, .inl (cyO, 6, .inr (.inr (.inr (.inr (fun k => some (L k 0)))))))], dyW cyI (L 0) (DD 0), dyW cyI (L 1) (DD 1), dyW cyI (L 2) (DD 2), dyW cyI (L 3) (DD 3), dyW cyI (L 4) (DD 4), dyW cyI (L 5) (DD 5), dyW cyI A D]) s9.heap := hP
  have hD : va_D A9 (cat [[(L 6 0, .inr (2, [.ref (L 6 1), .int ((2 : Int32))]))], [(L 6 1, .inl (cyO, 6, .inr (.inr (.inr (.inr (fun k => some (L k 0)))))))], dyW cyI (L 0) (DD 0), dyW cyI (L 1) (DD 1), dyW cyI (L 2) (DD 2), dyW cyI (L 3) (DD 3), dyW cyI (L 4) (DD 4), dyW cyI (L 5) (DD 5), dyW cyI A D]) := hD
  refine lv_aload_n hx hb dX2_restore_0 rfl (lv_at hl 0 rfl) ?_
  refine lv_aload_n hx hb dX2_restore_1 rfl (lv_at hl 0 rfl) ?_
  refine va_get (v := .int ((2 : Int32))) (C := RX2) (T := TX2) (N := 2) hx hb hts hinX2 hown hK hP 0 rfl rfl 1 (by decide) hf17 (fun _ h9 => h9) rfl dX2_restore_2 ?_
  refine lv_iconst (v := (1 : Int32)) hx hb dX2_restore_5 (by decide) ?_
  refine lv_isub hx hb dX2_restore_6 ?_
  refine top_i (x' := (1 : Int32)) (by decide) ?_
  refine gVr (gs := [[(L 6 0, .inr (2, [.ref (L 6 1), .int ((2 : Int32))]))], [(L 6 1, .inl (cyO, 6, .inr (.inr (.inr (.inr (fun k => some (L k 0)))))))], dyW cyI (L 0) (DD 0), dyW cyI (L 1) (DD 1), dyW cyI (L 2) (DD 2), dyW cyI (L 3) (DD 3), dyW cyI (L 4) (DD 4), dyW cyI (L 5) (DD 5), dyW cyI A D]) (As := [.int ((1 : Int32))]) (rest := []) ⟨hx, hb, hml, hown, hts⟩ (c_X2_savedAt l G cyI cyO (L 6 0) (L 6 1) 1 (L 1 0) ((2 : Int32)) (fun k => some (L k 0)) (by omega) (rfl)) (cwV 1 hts gX2_restore_X2_savedAt rfl rfl rfl (by decide +kernel) ⟨Nat.le_of_ble_eq_true rfl, Nat.le_of_ble_eq_true rfl⟩) hK hP hD hS hA [0, 1] rfl rfl rfl 0 2 rfl rfl rfl hl.1 rfl (Nat.le_of_ble_eq_true rfl) dX2_restore_7 ⟨Nat.le_refl _, Nat.le_refl _⟩ (fun H locs hP hD hS => ?_)
  have hP : va_P G vwCl (cat [[(L 6 0, .inr (2, [.ref (L 6 1), .int ((2 : Int32))]))], [(L 6 1, .inl (cyO, 6, .inr (.inr (.inr (.inr (fun k => some (L k 0)))))))], dyW cyI (L 0) (DD 0), dyW cyI (L 1) (DD 1), dyW cyI (L 2) (DD 2), dyW cyI (L 3) (DD 3), dyW cyI (L 4) (DD 4), dyW cyI (L 5) (DD 5), dyW cyI A D]) H := hP
  have hD : va_D A9 (cat [[(L 6 0, .inr (2, [.ref (L 6 1), .int ((2 : Int32))]))], [(L 6 1, .inl (cyO, 6, .inr (.inr (.inr (.inr (fun k => some (L k 0)))))))], dyW cyI (L 0) (DD 0), dyW cyI (L 1) (DD 1), dyW cyI (L 2) (DD 2), dyW cyI (L 3) (DD 3), dyW cyI (L 4) (DD 4), dyW cyI (L 5) (DD 5), dyW cyI A D]) := hD
  refine lv_astore_n (lv' := [(2, .ref (L 1 0)), (0, .ref (L 6 0)), (1, .ref (A 0))]) hx hb dX2_restore_10 rfl hl (by decide) rfl (fun ls hl => ?_)
  refine lv_aload_n hx hb dX2_restore_11 rfl (lv_at hl 0 rfl) ?_
  refine lv_ifnull hx hb dX2_restore_12 ?_
  refine lv_aload_n hx hb dX2_restore_15 rfl (lv_at hl 2 rfl) ?_
  refine lv_aload_n hx hb dX2_restore_16 rfl (lv_at hl 0 rfl) ?_
  refine gVv (gs := [[(L 6 0, .inr (2, [.ref (L 6 1), .int ((2 : Int32))]))], [(L 6 1, .inl (cyO, 6, .inr (.inr (.inr (.inr (fun k => some (L k 0)))))))], dyW cyI (L 0) (DD 0), dyW cyI (L 1) (DD 1), dyW cyI (L 2) (DD 2), dyW cyI (L 3) (DD 3), dyW cyI (L 4) (DD 4), dyW cyI (L 5) (DD 5), dyW cyI A D]) (As := [.ref (L 1 0)]) (rest := []) ⟨hx, hb, hml, hown, hts⟩ (c_X1_copyFrom l G cyI cyO A (L 1) D (DD 1)) (cwV 1 hts gX2_restore_X1_copyFrom rfl rfl rfl (by decide +kernel) ⟨Nat.le_of_ble_eq_true rfl, Nat.le_of_ble_eq_true rfl⟩) hK hP hD hS hA [8, 3] rfl rfl rfl 0 1 rfl rfl rfl hl.1 rfl (Nat.le_of_ble_eq_true rfl) dX2_restore_17 ⟨Nat.le_refl _, Nat.le_refl _⟩ (fun H locs hP hD hS => ?_)
  have hP : va_P G vwCl (cat [[(L 6 0, .inr (2, [.ref (L 6 1), .int ((2 : Int32))]))], [(L 6 1, .inl (cyO, 6, .inr (.inr (.inr (.inr (fun k => some (L k 0)))))))], dyW cyI (L 0) (DD 0), dyW cyI (L 1) (DD 1), dyW cyI (L 2) (DD 2), dyW cyI (L 3) (DD 3), dyW cyI (L 4) (DD 4), dyW cyI (L 5) (DD 5), dyW cyI A (dCopy D (DD 1))]) H := hP
  have hD : va_D A9 (cat [[(L 6 0, .inr (2, [.ref (L 6 1), .int ((2 : Int32))]))], [(L 6 1, .inl (cyO, 6, .inr (.inr (.inr (.inr (fun k => some (L k 0)))))))], dyW cyI (L 0) (DD 0), dyW cyI (L 1) (DD 1), dyW cyI (L 2) (DD 2), dyW cyI (L 3) (DD 3), dyW cyI (L 4) (DD 4), dyW cyI (L 5) (DD 5), dyW cyI A (dCopy D (DD 1))]) := hD
  refine lv_aload_n hx hb dX2_restore_20 rfl (lv_at hl 1 rfl) ?_
  refine lv_dup hx hb dX2_restore_21 rfl ?_
  refine va_get (v := .int ((2 : Int32))) (C := RX2) (T := TX2) (N := 2) hx hb hts hinX2 hown hK hP 0 rfl rfl 1 (by decide) hf17 (fun _ h9 => h9) rfl dX2_restore_22 ?_
  refine lv_iconst (v := (1 : Int32)) hx hb dX2_restore_25 (by decide) ?_
  refine lv_isub hx hb dX2_restore_26 ?_
  refine top_i (x' := (1 : Int32)) (by decide) ?_
  refine va_put (v := .int ((1 : Int32))) (ty := .int) (C := RX2) (T := TX2) (N := 2) hx hb hts hinX2 tyX2 tyX2_ok nmX2 hown hK hP hD hS 0 rfl rfl 1 (by decide) hf17 (fun _ h9 => h9) rfl (by first | rfl | decide +kernel) rfl rfl (Nat.le_of_ble_eq_true rfl) dX2_restore_27 (fun H locs hP hD hS => ?_)
  have hP : va_P G vwCl (cat [[(L 6 0, .inr (2, [.ref (L 6 1), .int ((1 : Int32))]))], [(L 6 1, .inl (cyO, 6, .inr (.inr (.inr (.inr (fun k => some (L k 0)))))))], dyW cyI (L 0) (DD 0), dyW cyI (L 1) (DD 1), dyW cyI (L 2) (DD 2), dyW cyI (L 3) (DD 3), dyW cyI (L 4) (DD 4), dyW cyI (L 5) (DD 5), dyW cyI A (dCopy D (DD 1))]) H := hP
  have hD : va_D A9 (cat [[(L 6 0, .inr (2, [.ref (L 6 1), .int ((1 : Int32))]))], [(L 6 1, .inl (cyO, 6, .inr (.inr (.inr (.inr (fun k => some (L k 0)))))))], dyW cyI (L 0) (DD 0), dyW cyI (L 1) (DD 1), dyW cyI (L 2) (DD 2), dyW cyI (L 3) (DD 3), dyW cyI (L 4) (DD 4), dyW cyI (L 5) (DD 5), dyW cyI A (dCopy D (DD 1))]) := hD
  refine lv_aload_n hx hb dX2_restore_30 rfl (lv_at hl 1 rfl) ?_
  refine va_get (v := .int ((1 : Int32))) (C := RX2) (T := TX2) (N := 2) hx hb hts hinX2 hown hK hP 0 rfl rfl 1 (by decide) hf17 (fun _ h9 => h9) rfl dX2_restore_31 ?_
  have hP : va_P G vwCl (cat [hiW cyI cyO L ((1, DD)), dyW cyI A (dCopy D (DD 1))]) H := hP
  have hD : va_D A9 (cat [hiW cyI cyO L ((1, DD)), dyW cyI A (dCopy D (DD 1))]) := hD
  exact end_i hx hb hr hlocks hK hP hD hS (rfl) dX2_restore_34
set_option maxHeartbeats 4000000 in
set_option maxRecDepth 100000 in
theorem c_X2_restore3 (l : Launch) (G : va_G) (cyI cyO : ClassId) (L : Nat → Nat → Nat) (DD : Nat → DS) (A : Nat → Nat) (D : DS) : CI l G (TY cyI cyO) yX2_restore wsX2_restore rm_X2_restore [.ref (L 6 0), .ref (A 0)] [hiW cyI cyO L ((3, DD)), dyW cyI A D] (nI (2)) [hiW cyI cyO L ((2, DD)), dyW cyI A (dCopy D (DD 2))] := by
  refine wk_I (cc := cX2_restore) (maxL := 3) (ret := (some .int)) (by decide) rfl (Nat.le_of_ble_eq_true rfl) ?_
  intro p9 e9 s9 m9 b9 t9 c9 A9 ls hx hb hr hts hown hlocks hml hK hA hD hP hl hS hnm
  have hl : lv_has ls 3 [(0, .ref (L 6 0)), (1, .ref (A 0))] := hl
  have hinX2 : ∀ w ∈ wsX20, w ∈ wsX2_restore := by decide +kernel
  have hf17 := hts (.fieldLink RX2 17 "DoorstepRounds$History" "count" "I") (by decide +kernel)
  have hP : va_P G vwCl (cat [[(L 6 0, .inr (2, [.ref (L 6 1), .int ((3 : Int32))]))], [(L 6 1, .inl (cyO, 6, .inr (.inr (.inr (.inr (fun k => some (L k 0)))))))], dyW cyI (L 0) (DD 0), dyW cyI (L 1) (DD 1), dyW cyI (L 2) (DD 2), dyW cyI (L 3) (DD 3), dyW cyI (L 4) (DD 4), dyW cyI (L 5) (DD 5), dyW cyI A D]) s9.heap := hP
  have hD : va_D A9 (cat [[(L 6 0, .inr (2, [.ref (L 6 1), .int ((3 : Int32))]))], [(L 6 1, .inl (cyO, 6, .inr (.inr (.inr (.inr (fun k => some (L k 0)))))))], dyW cyI (L 0) (DD 0), dyW cyI (L 1) (DD 1), dyW cyI (L 2) (DD 2), dyW cyI (L 3) (DD 3), dyW cyI (L 4) (DD 4), dyW cyI (L 5) (DD 5), dyW cyI A D]) := hD
  refine lv_aload_n hx hb dX2_restore_0 rfl (lv_at hl 0 rfl) ?_
  refine lv_aload_n hx hb dX2_restore_1 rfl (lv_at hl 0 rfl) ?_
  refine va_get (v := .int ((3 : Int32))) (C := RX2) (T := TX2) (N := 2) hx hb hts hinX2 hown hK hP 0 rfl rfl 1 (by decide) hf17 (fun _ h9 => h9) rfl dX2_restore_2 ?_
  refine lv_iconst (v := (1 : Int32)) hx hb dX2_restore_5 (by decide) ?_
  refine lv_isub hx hb dX2_restore_6 ?_
  refine top_i (x' := (2 : Int32)) (by decide) ?_
  refine gVr (gs := [[(L 6 0, .inr (2, [.ref (L 6 1), .int ((3 : Int32))]))], [(L 6 1, .inl (cyO, 6, .inr (.inr (.inr (.inr (fun k => some (L k 0)))))))], dyW cyI (L 0) (DD 0), dyW cyI (L 1) (DD 1), dyW cyI (L 2) (DD 2), dyW cyI (L 3) (DD 3), dyW cyI (L 4) (DD 4), dyW cyI (L 5) (DD 5), dyW cyI A D]) (As := [.int ((2 : Int32))]) (rest := []) ⟨hx, hb, hml, hown, hts⟩ (c_X2_savedAt l G cyI cyO (L 6 0) (L 6 1) 2 (L 2 0) ((3 : Int32)) (fun k => some (L k 0)) (by omega) (rfl)) (cwV 1 hts gX2_restore_X2_savedAt rfl rfl rfl (by decide +kernel) ⟨Nat.le_of_ble_eq_true rfl, Nat.le_of_ble_eq_true rfl⟩) hK hP hD hS hA [0, 1] rfl rfl rfl 0 2 rfl rfl rfl hl.1 rfl (Nat.le_of_ble_eq_true rfl) dX2_restore_7 ⟨Nat.le_refl _, Nat.le_refl _⟩ (fun H locs hP hD hS => ?_)
  have hP : va_P G vwCl (cat [[(L 6 0, .inr (2, [.ref (L 6 1), .int ((3 : Int32))]))], [(L 6 1, .inl (cyO, 6, .inr (.inr (.inr (.inr (fun k => some (L k 0)))))))], dyW cyI (L 0) (DD 0), dyW cyI (L 1) (DD 1), dyW cyI (L 2) (DD 2), dyW cyI (L 3) (DD 3), dyW cyI (L 4) (DD 4), dyW cyI (L 5) (DD 5), dyW cyI A D]) H := hP
  have hD : va_D A9 (cat [[(L 6 0, .inr (2, [.ref (L 6 1), .int ((3 : Int32))]))], [(L 6 1, .inl (cyO, 6, .inr (.inr (.inr (.inr (fun k => some (L k 0)))))))], dyW cyI (L 0) (DD 0), dyW cyI (L 1) (DD 1), dyW cyI (L 2) (DD 2), dyW cyI (L 3) (DD 3), dyW cyI (L 4) (DD 4), dyW cyI (L 5) (DD 5), dyW cyI A D]) := hD
  refine lv_astore_n (lv' := [(2, .ref (L 2 0)), (0, .ref (L 6 0)), (1, .ref (A 0))]) hx hb dX2_restore_10 rfl hl (by decide) rfl (fun ls hl => ?_)
  refine lv_aload_n hx hb dX2_restore_11 rfl (lv_at hl 0 rfl) ?_
  refine lv_ifnull hx hb dX2_restore_12 ?_
  refine lv_aload_n hx hb dX2_restore_15 rfl (lv_at hl 2 rfl) ?_
  refine lv_aload_n hx hb dX2_restore_16 rfl (lv_at hl 0 rfl) ?_
  refine gVv (gs := [[(L 6 0, .inr (2, [.ref (L 6 1), .int ((3 : Int32))]))], [(L 6 1, .inl (cyO, 6, .inr (.inr (.inr (.inr (fun k => some (L k 0)))))))], dyW cyI (L 0) (DD 0), dyW cyI (L 1) (DD 1), dyW cyI (L 2) (DD 2), dyW cyI (L 3) (DD 3), dyW cyI (L 4) (DD 4), dyW cyI (L 5) (DD 5), dyW cyI A D]) (As := [.ref (L 2 0)]) (rest := []) ⟨hx, hb, hml, hown, hts⟩ (c_X1_copyFrom l G cyI cyO A (L 2) D (DD 2)) (cwV 1 hts gX2_restore_X1_copyFrom rfl rfl rfl (by decide +kernel) ⟨Nat.le_of_ble_eq_true rfl, Nat.le_of_ble_eq_true rfl⟩) hK hP hD hS hA [8, 4] rfl rfl rfl 0 1 rfl rfl rfl hl.1 rfl (Nat.le_of_ble_eq_true rfl) dX2_restore_17 ⟨Nat.le_refl _, Nat.le_refl _⟩ (fun H locs hP hD hS => ?_)
  have hP : va_P G vwCl (cat [[(L 6 0, .inr (2, [.ref (L 6 1), .int ((3 : Int32))]))], [(L 6 1, .inl (cyO, 6, .inr (.inr (.inr (.inr (fun k => some (L k 0)))))))], dyW cyI (L 0) (DD 0), dyW cyI (L 1) (DD 1), dyW cyI (L 2) (DD 2), dyW cyI (L 3) (DD 3), dyW cyI (L 4) (DD 4), dyW cyI (L 5) (DD 5), dyW cyI A (dCopy D (DD 2))]) H := hP
  have hD : va_D A9 (cat [[(L 6 0, .inr (2, [.ref (L 6 1), .int ((3 : Int32))]))], [(L 6 1, .inl (cyO, 6, .inr (.inr (.inr (.inr (fun k => some (L k 0)))))))], dyW cyI (L 0) (DD 0), dyW cyI (L 1) (DD 1), dyW cyI (L 2) (DD 2), dyW cyI (L 3) (DD 3), dyW cyI (L 4) (DD 4), dyW cyI (L 5) (DD 5), dyW cyI A (dCopy D (DD 2))]) := hD
  refine lv_aload_n hx hb dX2_restore_20 rfl (lv_at hl 1 rfl) ?_
  refine lv_dup hx hb dX2_restore_21 rfl ?_
  refine va_get (v := .int ((3 : Int32))) (C := RX2) (T := TX2) (N := 2) hx hb hts hinX2 hown hK hP 0 rfl rfl 1 (by decide) hf17 (fun _ h9 => h9) rfl dX2_restore_22 ?_
  refine lv_iconst (v := (1 : Int32)) hx hb dX2_restore_25 (by decide) ?_
  refine lv_isub hx hb dX2_restore_26 ?_
  refine top_i (x' := (2 : Int32)) (by decide) ?_
  refine va_put (v := .int ((2 : Int32))) (ty := .int) (C := RX2) (T := TX2) (N := 2) hx hb hts hinX2 tyX2 tyX2_ok nmX2 hown hK hP hD hS 0 rfl rfl 1 (by decide) hf17 (fun _ h9 => h9) rfl (by first | rfl | decide +kernel) rfl rfl (Nat.le_of_ble_eq_true rfl) dX2_restore_27 (fun H locs hP hD hS => ?_)
  have hP : va_P G vwCl (cat [[(L 6 0, .inr (2, [.ref (L 6 1), .int ((2 : Int32))]))], [(L 6 1, .inl (cyO, 6, .inr (.inr (.inr (.inr (fun k => some (L k 0)))))))], dyW cyI (L 0) (DD 0), dyW cyI (L 1) (DD 1), dyW cyI (L 2) (DD 2), dyW cyI (L 3) (DD 3), dyW cyI (L 4) (DD 4), dyW cyI (L 5) (DD 5), dyW cyI A (dCopy D (DD 2))]) H := hP
  have hD : va_D A9 (cat [[(L 6 0, .inr (2, [.ref (L 6 1), .int ((2 : Int32))]))], [(L 6 1, .inl (cyO, 6, .inr (.inr (.inr (.inr (fun k => some (L k 0)))))))], dyW cyI (L 0) (DD 0), dyW cyI (L 1) (DD 1), dyW cyI (L 2) (DD 2), dyW cyI (L 3) (DD 3), dyW cyI (L 4) (DD 4), dyW cyI (L 5) (DD 5), dyW cyI A (dCopy D (DD 2))]) := hD
  refine lv_aload_n hx hb dX2_restore_30 rfl (lv_at hl 1 rfl) ?_
  refine va_get (v := .int ((2 : Int32))) (C := RX2) (T := TX2) (N := 2) hx hb hts hinX2 hown hK hP 0 rfl rfl 1 (by decide) hf17 (fun _ h9 => h9) rfl dX2_restore_31 ?_
  have hP : va_P G vwCl (cat [hiW cyI cyO L ((2, DD)), dyW cyI A (dCopy D (DD 2))]) H := hP
  have hD : va_D A9 (cat [hiW cyI cyO L ((2, DD)), dyW cyI A (dCopy D (DD 2))]) := hD
  exact end_i hx hb hr hlocks hK hP hD hS (rfl) dX2_restore_34
set_option maxHeartbeats 4000000 in
set_option maxRecDepth 100000 in
theorem c_X2_restore4 (l : Launch) (G : va_G) (cyI cyO : ClassId) (L : Nat → Nat → Nat) (DD : Nat → DS) (A : Nat → Nat) (D : DS) : CI l G (TY cyI cyO) yX2_restore wsX2_restore rm_X2_restore [.ref (L 6 0), .ref (A 0)] [hiW cyI cyO L ((4, DD)), dyW cyI A D] (nI (3)) [hiW cyI cyO L ((3, DD)), dyW cyI A (dCopy D (DD 3))] := by
  refine wk_I (cc := cX2_restore) (maxL := 3) (ret := (some .int)) (by decide) rfl (Nat.le_of_ble_eq_true rfl) ?_
  intro p9 e9 s9 m9 b9 t9 c9 A9 ls hx hb hr hts hown hlocks hml hK hA hD hP hl hS hnm
  have hl : lv_has ls 3 [(0, .ref (L 6 0)), (1, .ref (A 0))] := hl
  have hinX2 : ∀ w ∈ wsX20, w ∈ wsX2_restore := by decide +kernel
  have hf17 := hts (.fieldLink RX2 17 "DoorstepRounds$History" "count" "I") (by decide +kernel)
  have hP : va_P G vwCl (cat [[(L 6 0, .inr (2, [.ref (L 6 1), .int ((4 : Int32))]))], [(L 6 1, .inl (cyO, 6, .inr (.inr (.inr (.inr (fun k => some (L k 0)))))))], dyW cyI (L 0) (DD 0), dyW cyI (L 1) (DD 1), dyW cyI (L 2) (DD 2), dyW cyI (L 3) (DD 3), dyW cyI (L 4) (DD 4), dyW cyI (L 5) (DD 5), dyW cyI A D]) s9.heap := hP
  have hD : va_D A9 (cat [[(L 6 0, .inr (2, [.ref (L 6 1), .int ((4 : Int32))]))], [(L 6 1, .inl (cyO, 6, .inr (.inr (.inr (.inr (fun k => some (L k 0)))))))], dyW cyI (L 0) (DD 0), dyW cyI (L 1) (DD 1), dyW cyI (L 2) (DD 2), dyW cyI (L 3) (DD 3), dyW cyI (L 4) (DD 4), dyW cyI (L 5) (DD 5), dyW cyI A D]) := hD
  refine lv_aload_n hx hb dX2_restore_0 rfl (lv_at hl 0 rfl) ?_
  refine lv_aload_n hx hb dX2_restore_1 rfl (lv_at hl 0 rfl) ?_
  refine va_get (v := .int ((4 : Int32))) (C := RX2) (T := TX2) (N := 2) hx hb hts hinX2 hown hK hP 0 rfl rfl 1 (by decide) hf17 (fun _ h9 => h9) rfl dX2_restore_2 ?_
  refine lv_iconst (v := (1 : Int32)) hx hb dX2_restore_5 (by decide) ?_
  refine lv_isub hx hb dX2_restore_6 ?_
  refine top_i (x' := (3 : Int32)) (by decide) ?_
  refine gVr (gs := [[(L 6 0, .inr (2, [.ref (L 6 1), .int ((4 : Int32))]))], [(L 6 1, .inl (cyO, 6, .inr (.inr (.inr (.inr (fun k => some (L k 0)))))))], dyW cyI (L 0) (DD 0), dyW cyI (L 1) (DD 1), dyW cyI (L 2) (DD 2), dyW cyI (L 3) (DD 3), dyW cyI (L 4) (DD 4), dyW cyI (L 5) (DD 5), dyW cyI A D]) (As := [.int ((3 : Int32))]) (rest := []) ⟨hx, hb, hml, hown, hts⟩ (c_X2_savedAt l G cyI cyO (L 6 0) (L 6 1) 3 (L 3 0) ((4 : Int32)) (fun k => some (L k 0)) (by omega) (rfl)) (cwV 1 hts gX2_restore_X2_savedAt rfl rfl rfl (by decide +kernel) ⟨Nat.le_of_ble_eq_true rfl, Nat.le_of_ble_eq_true rfl⟩) hK hP hD hS hA [0, 1] rfl rfl rfl 0 2 rfl rfl rfl hl.1 rfl (Nat.le_of_ble_eq_true rfl) dX2_restore_7 ⟨Nat.le_refl _, Nat.le_refl _⟩ (fun H locs hP hD hS => ?_)
  have hP : va_P G vwCl (cat [[(L 6 0, .inr (2, [.ref (L 6 1), .int ((4 : Int32))]))], [(L 6 1, .inl (cyO, 6, .inr (.inr (.inr (.inr (fun k => some (L k 0)))))))], dyW cyI (L 0) (DD 0), dyW cyI (L 1) (DD 1), dyW cyI (L 2) (DD 2), dyW cyI (L 3) (DD 3), dyW cyI (L 4) (DD 4), dyW cyI (L 5) (DD 5), dyW cyI A D]) H := hP
  have hD : va_D A9 (cat [[(L 6 0, .inr (2, [.ref (L 6 1), .int ((4 : Int32))]))], [(L 6 1, .inl (cyO, 6, .inr (.inr (.inr (.inr (fun k => some (L k 0)))))))], dyW cyI (L 0) (DD 0), dyW cyI (L 1) (DD 1), dyW cyI (L 2) (DD 2), dyW cyI (L 3) (DD 3), dyW cyI (L 4) (DD 4), dyW cyI (L 5) (DD 5), dyW cyI A D]) := hD
  refine lv_astore_n (lv' := [(2, .ref (L 3 0)), (0, .ref (L 6 0)), (1, .ref (A 0))]) hx hb dX2_restore_10 rfl hl (by decide) rfl (fun ls hl => ?_)
  refine lv_aload_n hx hb dX2_restore_11 rfl (lv_at hl 0 rfl) ?_
  refine lv_ifnull hx hb dX2_restore_12 ?_
  refine lv_aload_n hx hb dX2_restore_15 rfl (lv_at hl 2 rfl) ?_
  refine lv_aload_n hx hb dX2_restore_16 rfl (lv_at hl 0 rfl) ?_
  refine gVv (gs := [[(L 6 0, .inr (2, [.ref (L 6 1), .int ((4 : Int32))]))], [(L 6 1, .inl (cyO, 6, .inr (.inr (.inr (.inr (fun k => some (L k 0)))))))], dyW cyI (L 0) (DD 0), dyW cyI (L 1) (DD 1), dyW cyI (L 2) (DD 2), dyW cyI (L 3) (DD 3), dyW cyI (L 4) (DD 4), dyW cyI (L 5) (DD 5), dyW cyI A D]) (As := [.ref (L 3 0)]) (rest := []) ⟨hx, hb, hml, hown, hts⟩ (c_X1_copyFrom l G cyI cyO A (L 3) D (DD 3)) (cwV 1 hts gX2_restore_X1_copyFrom rfl rfl rfl (by decide +kernel) ⟨Nat.le_of_ble_eq_true rfl, Nat.le_of_ble_eq_true rfl⟩) hK hP hD hS hA [8, 5] rfl rfl rfl 0 1 rfl rfl rfl hl.1 rfl (Nat.le_of_ble_eq_true rfl) dX2_restore_17 ⟨Nat.le_refl _, Nat.le_refl _⟩ (fun H locs hP hD hS => ?_)
  have hP : va_P G vwCl (cat [[(L 6 0, .inr (2, [.ref (L 6 1), .int ((4 : Int32))]))], [(L 6 1, .inl (cyO, 6, .inr (.inr (.inr (.inr (fun k => some (L k 0)))))))], dyW cyI (L 0) (DD 0), dyW cyI (L 1) (DD 1), dyW cyI (L 2) (DD 2), dyW cyI (L 3) (DD 3), dyW cyI (L 4) (DD 4), dyW cyI (L 5) (DD 5), dyW cyI A (dCopy D (DD 3))]) H := hP
  have hD : va_D A9 (cat [[(L 6 0, .inr (2, [.ref (L 6 1), .int ((4 : Int32))]))], [(L 6 1, .inl (cyO, 6, .inr (.inr (.inr (.inr (fun k => some (L k 0)))))))], dyW cyI (L 0) (DD 0), dyW cyI (L 1) (DD 1), dyW cyI (L 2) (DD 2), dyW cyI (L 3) (DD 3), dyW cyI (L 4) (DD 4), dyW cyI (L 5) (DD 5), dyW cyI A (dCopy D (DD 3))]) := hD
  refine lv_aload_n hx hb dX2_restore_20 rfl (lv_at hl 1 rfl) ?_
  refine lv_dup hx hb dX2_restore_21 rfl ?_
  refine va_get (v := .int ((4 : Int32))) (C := RX2) (T := TX2) (N := 2) hx hb hts hinX2 hown hK hP 0 rfl rfl 1 (by decide) hf17 (fun _ h9 => h9) rfl dX2_restore_22 ?_
  refine lv_iconst (v := (1 : Int32)) hx hb dX2_restore_25 (by decide) ?_
  refine lv_isub hx hb dX2_restore_26 ?_
  refine top_i (x' := (3 : Int32)) (by decide) ?_
  refine va_put (v := .int ((3 : Int32))) (ty := .int) (C := RX2) (T := TX2) (N := 2) hx hb hts hinX2 tyX2 tyX2_ok nmX2 hown hK hP hD hS 0 rfl rfl 1 (by decide) hf17 (fun _ h9 => h9) rfl (by first | rfl | decide +kernel) rfl rfl (Nat.le_of_ble_eq_true rfl) dX2_restore_27 (fun H locs hP hD hS => ?_)
  have hP : va_P G vwCl (cat [[(L 6 0, .inr (2, [.ref (L 6 1), .int ((3 : Int32))]))], [(L 6 1, .inl (cyO, 6, .inr (.inr (.inr (.inr (fun k => some (L k 0)))))))], dyW cyI (L 0) (DD 0), dyW cyI (L 1) (DD 1), dyW cyI (L 2) (DD 2), dyW cyI (L 3) (DD 3), dyW cyI (L 4) (DD 4), dyW cyI (L 5) (DD 5), dyW cyI A (dCopy D (DD 3))]) H := hP
  have hD : va_D A9 (cat [[(L 6 0, .inr (2, [.ref (L 6 1), .int ((3 : Int32))]))], [(L 6 1, .inl (cyO, 6, .inr (.inr (.inr (.inr (fun k => some (L k 0)))))))], dyW cyI (L 0) (DD 0), dyW cyI (L 1) (DD 1), dyW cyI (L 2) (DD 2), dyW cyI (L 3) (DD 3), dyW cyI (L 4) (DD 4), dyW cyI (L 5) (DD 5), dyW cyI A (dCopy D (DD 3))]) := hD
  refine lv_aload_n hx hb dX2_restore_30 rfl (lv_at hl 1 rfl) ?_
  refine va_get (v := .int ((3 : Int32))) (C := RX2) (T := TX2) (N := 2) hx hb hts hinX2 hown hK hP 0 rfl rfl 1 (by decide) hf17 (fun _ h9 => h9) rfl dX2_restore_31 ?_
  have hP : va_P G vwCl (cat [hiW cyI cyO L ((3, DD)), dyW cyI A (dCopy D (DD 3))]) H := hP
  have hD : va_D A9 (cat [hiW cyI cyO L ((3, DD)), dyW cyI A (dCopy D (DD 3))]) := hD
  exact end_i hx hb hr hlocks hK hP hD hS (rfl) dX2_restore_34
set_option maxHeartbeats 4000000 in
set_option maxRecDepth 100000 in
theorem c_X2_restore5 (l : Launch) (G : va_G) (cyI cyO : ClassId) (L : Nat → Nat → Nat) (DD : Nat → DS) (A : Nat → Nat) (D : DS) : CI l G (TY cyI cyO) yX2_restore wsX2_restore rm_X2_restore [.ref (L 6 0), .ref (A 0)] [hiW cyI cyO L ((5, DD)), dyW cyI A D] (nI (4)) [hiW cyI cyO L ((4, DD)), dyW cyI A (dCopy D (DD 4))] := by
  refine wk_I (cc := cX2_restore) (maxL := 3) (ret := (some .int)) (by decide) rfl (Nat.le_of_ble_eq_true rfl) ?_
  intro p9 e9 s9 m9 b9 t9 c9 A9 ls hx hb hr hts hown hlocks hml hK hA hD hP hl hS hnm
  have hl : lv_has ls 3 [(0, .ref (L 6 0)), (1, .ref (A 0))] := hl
  have hinX2 : ∀ w ∈ wsX20, w ∈ wsX2_restore := by decide +kernel
  have hf17 := hts (.fieldLink RX2 17 "DoorstepRounds$History" "count" "I") (by decide +kernel)
  have hP : va_P G vwCl (cat [[(L 6 0, .inr (2, [.ref (L 6 1), .int ((5 : Int32))]))], [(L 6 1, .inl (cyO, 6, .inr (.inr (.inr (.inr (fun k => some (L k 0)))))))], dyW cyI (L 0) (DD 0), dyW cyI (L 1) (DD 1), dyW cyI (L 2) (DD 2), dyW cyI (L 3) (DD 3), dyW cyI (L 4) (DD 4), dyW cyI (L 5) (DD 5), dyW cyI A D]) s9.heap := hP
  have hD : va_D A9 (cat [[(L 6 0, .inr (2, [.ref (L 6 1), .int ((5 : Int32))]))], [(L 6 1, .inl (cyO, 6, .inr (.inr (.inr (.inr (fun k => some (L k 0)))))))], dyW cyI (L 0) (DD 0), dyW cyI (L 1) (DD 1), dyW cyI (L 2) (DD 2), dyW cyI (L 3) (DD 3), dyW cyI (L 4) (DD 4), dyW cyI (L 5) (DD 5), dyW cyI A D]) := hD
  refine lv_aload_n hx hb dX2_restore_0 rfl (lv_at hl 0 rfl) ?_
  refine lv_aload_n hx hb dX2_restore_1 rfl (lv_at hl 0 rfl) ?_
  refine va_get (v := .int ((5 : Int32))) (C := RX2) (T := TX2) (N := 2) hx hb hts hinX2 hown hK hP 0 rfl rfl 1 (by decide) hf17 (fun _ h9 => h9) rfl dX2_restore_2 ?_
  refine lv_iconst (v := (1 : Int32)) hx hb dX2_restore_5 (by decide) ?_
  refine lv_isub hx hb dX2_restore_6 ?_
  refine top_i (x' := (4 : Int32)) (by decide) ?_
  refine gVr (gs := [[(L 6 0, .inr (2, [.ref (L 6 1), .int ((5 : Int32))]))], [(L 6 1, .inl (cyO, 6, .inr (.inr (.inr (.inr (fun k => some (L k 0)))))))], dyW cyI (L 0) (DD 0), dyW cyI (L 1) (DD 1), dyW cyI (L 2) (DD 2), dyW cyI (L 3) (DD 3), dyW cyI (L 4) (DD 4), dyW cyI (L 5) (DD 5), dyW cyI A D]) (As := [.int ((4 : Int32))]) (rest := []) ⟨hx, hb, hml, hown, hts⟩ (c_X2_savedAt l G cyI cyO (L 6 0) (L 6 1) 4 (L 4 0) ((5 : Int32)) (fun k => some (L k 0)) (by omega) (rfl)) (cwV 1 hts gX2_restore_X2_savedAt rfl rfl rfl (by decide +kernel) ⟨Nat.le_of_ble_eq_true rfl, Nat.le_of_ble_eq_true rfl⟩) hK hP hD hS hA [0, 1] rfl rfl rfl 0 2 rfl rfl rfl hl.1 rfl (Nat.le_of_ble_eq_true rfl) dX2_restore_7 ⟨Nat.le_refl _, Nat.le_refl _⟩ (fun H locs hP hD hS => ?_)
  have hP : va_P G vwCl (cat [[(L 6 0, .inr (2, [.ref (L 6 1), .int ((5 : Int32))]))], [(L 6 1, .inl (cyO, 6, .inr (.inr (.inr (.inr (fun k => some (L k 0)))))))], dyW cyI (L 0) (DD 0), dyW cyI (L 1) (DD 1), dyW cyI (L 2) (DD 2), dyW cyI (L 3) (DD 3), dyW cyI (L 4) (DD 4), dyW cyI (L 5) (DD 5), dyW cyI A D]) H := hP
  have hD : va_D A9 (cat [[(L 6 0, .inr (2, [.ref (L 6 1), .int ((5 : Int32))]))], [(L 6 1, .inl (cyO, 6, .inr (.inr (.inr (.inr (fun k => some (L k 0)))))))], dyW cyI (L 0) (DD 0), dyW cyI (L 1) (DD 1), dyW cyI (L 2) (DD 2), dyW cyI (L 3) (DD 3), dyW cyI (L 4) (DD 4), dyW cyI (L 5) (DD 5), dyW cyI A D]) := hD
  refine lv_astore_n (lv' := [(2, .ref (L 4 0)), (0, .ref (L 6 0)), (1, .ref (A 0))]) hx hb dX2_restore_10 rfl hl (by decide) rfl (fun ls hl => ?_)
  refine lv_aload_n hx hb dX2_restore_11 rfl (lv_at hl 0 rfl) ?_
  refine lv_ifnull hx hb dX2_restore_12 ?_
  refine lv_aload_n hx hb dX2_restore_15 rfl (lv_at hl 2 rfl) ?_
  refine lv_aload_n hx hb dX2_restore_16 rfl (lv_at hl 0 rfl) ?_
  refine gVv (gs := [[(L 6 0, .inr (2, [.ref (L 6 1), .int ((5 : Int32))]))], [(L 6 1, .inl (cyO, 6, .inr (.inr (.inr (.inr (fun k => some (L k 0)))))))], dyW cyI (L 0) (DD 0), dyW cyI (L 1) (DD 1), dyW cyI (L 2) (DD 2), dyW cyI (L 3) (DD 3), dyW cyI (L 4) (DD 4), dyW cyI (L 5) (DD 5), dyW cyI A D]) (As := [.ref (L 4 0)]) (rest := []) ⟨hx, hb, hml, hown, hts⟩ (c_X1_copyFrom l G cyI cyO A (L 4) D (DD 4)) (cwV 1 hts gX2_restore_X1_copyFrom rfl rfl rfl (by decide +kernel) ⟨Nat.le_of_ble_eq_true rfl, Nat.le_of_ble_eq_true rfl⟩) hK hP hD hS hA [8, 6] rfl rfl rfl 0 1 rfl rfl rfl hl.1 rfl (Nat.le_of_ble_eq_true rfl) dX2_restore_17 ⟨Nat.le_refl _, Nat.le_refl _⟩ (fun H locs hP hD hS => ?_)
  have hP : va_P G vwCl (cat [[(L 6 0, .inr (2, [.ref (L 6 1), .int ((5 : Int32))]))], [(L 6 1, .inl (cyO, 6, .inr (.inr (.inr (.inr (fun k => some (L k 0)))))))], dyW cyI (L 0) (DD 0), dyW cyI (L 1) (DD 1), dyW cyI (L 2) (DD 2), dyW cyI (L 3) (DD 3), dyW cyI (L 4) (DD 4), dyW cyI (L 5) (DD 5), dyW cyI A (dCopy D (DD 4))]) H := hP
  have hD : va_D A9 (cat [[(L 6 0, .inr (2, [.ref (L 6 1), .int ((5 : Int32))]))], [(L 6 1, .inl (cyO, 6, .inr (.inr (.inr (.inr (fun k => some (L k 0)))))))], dyW cyI (L 0) (DD 0), dyW cyI (L 1) (DD 1), dyW cyI (L 2) (DD 2), dyW cyI (L 3) (DD 3), dyW cyI (L 4) (DD 4), dyW cyI (L 5) (DD 5), dyW cyI A (dCopy D (DD 4))]) := hD
  refine lv_aload_n hx hb dX2_restore_20 rfl (lv_at hl 1 rfl) ?_
  refine lv_dup hx hb dX2_restore_21 rfl ?_
  refine va_get (v := .int ((5 : Int32))) (C := RX2) (T := TX2) (N := 2) hx hb hts hinX2 hown hK hP 0 rfl rfl 1 (by decide) hf17 (fun _ h9 => h9) rfl dX2_restore_22 ?_
  refine lv_iconst (v := (1 : Int32)) hx hb dX2_restore_25 (by decide) ?_
  refine lv_isub hx hb dX2_restore_26 ?_
  refine top_i (x' := (4 : Int32)) (by decide) ?_
  refine va_put (v := .int ((4 : Int32))) (ty := .int) (C := RX2) (T := TX2) (N := 2) hx hb hts hinX2 tyX2 tyX2_ok nmX2 hown hK hP hD hS 0 rfl rfl 1 (by decide) hf17 (fun _ h9 => h9) rfl (by first | rfl | decide +kernel) rfl rfl (Nat.le_of_ble_eq_true rfl) dX2_restore_27 (fun H locs hP hD hS => ?_)
  have hP : va_P G vwCl (cat [[(L 6 0, .inr (2, [.ref (L 6 1), .int ((4 : Int32))]))], [(L 6 1, .inl (cyO, 6, .inr (.inr (.inr (.inr (fun k => some (L k 0)))))))], dyW cyI (L 0) (DD 0), dyW cyI (L 1) (DD 1), dyW cyI (L 2) (DD 2), dyW cyI (L 3) (DD 3), dyW cyI (L 4) (DD 4), dyW cyI (L 5) (DD 5), dyW cyI A (dCopy D (DD 4))]) H := hP
  have hD : va_D A9 (cat [[(L 6 0, .inr (2, [.ref (L 6 1), .int ((4 : Int32))]))], [(L 6 1, .inl (cyO, 6, .inr (.inr (.inr (.inr (fun k => some (L k 0)))))))], dyW cyI (L 0) (DD 0), dyW cyI (L 1) (DD 1), dyW cyI (L 2) (DD 2), dyW cyI (L 3) (DD 3), dyW cyI (L 4) (DD 4), dyW cyI (L 5) (DD 5), dyW cyI A (dCopy D (DD 4))]) := hD
  refine lv_aload_n hx hb dX2_restore_30 rfl (lv_at hl 1 rfl) ?_
  refine va_get (v := .int ((4 : Int32))) (C := RX2) (T := TX2) (N := 2) hx hb hts hinX2 hown hK hP 0 rfl rfl 1 (by decide) hf17 (fun _ h9 => h9) rfl dX2_restore_31 ?_
  have hP : va_P G vwCl (cat [hiW cyI cyO L ((4, DD)), dyW cyI A (dCopy D (DD 4))]) H := hP
  have hD : va_D A9 (cat [hiW cyI cyO L ((4, DD)), dyW cyI A (dCopy D (DD 4))]) := hD
  exact end_i hx hb hr hlocks hK hP hD hS (rfl) dX2_restore_34
set_option maxHeartbeats 4000000 in
set_option maxRecDepth 100000 in
theorem c_X2_restore6 (l : Launch) (G : va_G) (cyI cyO : ClassId) (L : Nat → Nat → Nat) (DD : Nat → DS) (A : Nat → Nat) (D : DS) : CI l G (TY cyI cyO) yX2_restore wsX2_restore rm_X2_restore [.ref (L 6 0), .ref (A 0)] [hiW cyI cyO L ((6, DD)), dyW cyI A D] (nI (5)) [hiW cyI cyO L ((5, DD)), dyW cyI A (dCopy D (DD 5))] := by
  refine wk_I (cc := cX2_restore) (maxL := 3) (ret := (some .int)) (by decide) rfl (Nat.le_of_ble_eq_true rfl) ?_
  intro p9 e9 s9 m9 b9 t9 c9 A9 ls hx hb hr hts hown hlocks hml hK hA hD hP hl hS hnm
  have hl : lv_has ls 3 [(0, .ref (L 6 0)), (1, .ref (A 0))] := hl
  have hinX2 : ∀ w ∈ wsX20, w ∈ wsX2_restore := by decide +kernel
  have hf17 := hts (.fieldLink RX2 17 "DoorstepRounds$History" "count" "I") (by decide +kernel)
  have hP : va_P G vwCl (cat [[(L 6 0, .inr (2, [.ref (L 6 1), .int ((6 : Int32))]))], [(L 6 1, .inl (cyO, 6, .inr (.inr (.inr (.inr (fun k => some (L k 0)))))))], dyW cyI (L 0) (DD 0), dyW cyI (L 1) (DD 1), dyW cyI (L 2) (DD 2), dyW cyI (L 3) (DD 3), dyW cyI (L 4) (DD 4), dyW cyI (L 5) (DD 5), dyW cyI A D]) s9.heap := hP
  have hD : va_D A9 (cat [[(L 6 0, .inr (2, [.ref (L 6 1), .int ((6 : Int32))]))], [(L 6 1, .inl (cyO, 6, .inr (.inr (.inr (.inr (fun k => some (L k 0)))))))], dyW cyI (L 0) (DD 0), dyW cyI (L 1) (DD 1), dyW cyI (L 2) (DD 2), dyW cyI (L 3) (DD 3), dyW cyI (L 4) (DD 4), dyW cyI (L 5) (DD 5), dyW cyI A D]) := hD
  refine lv_aload_n hx hb dX2_restore_0 rfl (lv_at hl 0 rfl) ?_
  refine lv_aload_n hx hb dX2_restore_1 rfl (lv_at hl 0 rfl) ?_
  refine va_get (v := .int ((6 : Int32))) (C := RX2) (T := TX2) (N := 2) hx hb hts hinX2 hown hK hP 0 rfl rfl 1 (by decide) hf17 (fun _ h9 => h9) rfl dX2_restore_2 ?_
  refine lv_iconst (v := (1 : Int32)) hx hb dX2_restore_5 (by decide) ?_
  refine lv_isub hx hb dX2_restore_6 ?_
  refine top_i (x' := (5 : Int32)) (by decide) ?_
  refine gVr (gs := [[(L 6 0, .inr (2, [.ref (L 6 1), .int ((6 : Int32))]))], [(L 6 1, .inl (cyO, 6, .inr (.inr (.inr (.inr (fun k => some (L k 0)))))))], dyW cyI (L 0) (DD 0), dyW cyI (L 1) (DD 1), dyW cyI (L 2) (DD 2), dyW cyI (L 3) (DD 3), dyW cyI (L 4) (DD 4), dyW cyI (L 5) (DD 5), dyW cyI A D]) (As := [.int ((5 : Int32))]) (rest := []) ⟨hx, hb, hml, hown, hts⟩ (c_X2_savedAt l G cyI cyO (L 6 0) (L 6 1) 5 (L 5 0) ((6 : Int32)) (fun k => some (L k 0)) (by omega) (rfl)) (cwV 1 hts gX2_restore_X2_savedAt rfl rfl rfl (by decide +kernel) ⟨Nat.le_of_ble_eq_true rfl, Nat.le_of_ble_eq_true rfl⟩) hK hP hD hS hA [0, 1] rfl rfl rfl 0 2 rfl rfl rfl hl.1 rfl (Nat.le_of_ble_eq_true rfl) dX2_restore_7 ⟨Nat.le_refl _, Nat.le_refl _⟩ (fun H locs hP hD hS => ?_)
  have hP : va_P G vwCl (cat [[(L 6 0, .inr (2, [.ref (L 6 1), .int ((6 : Int32))]))], [(L 6 1, .inl (cyO, 6, .inr (.inr (.inr (.inr (fun k => some (L k 0)))))))], dyW cyI (L 0) (DD 0), dyW cyI (L 1) (DD 1), dyW cyI (L 2) (DD 2), dyW cyI (L 3) (DD 3), dyW cyI (L 4) (DD 4), dyW cyI (L 5) (DD 5), dyW cyI A D]) H := hP
  have hD : va_D A9 (cat [[(L 6 0, .inr (2, [.ref (L 6 1), .int ((6 : Int32))]))], [(L 6 1, .inl (cyO, 6, .inr (.inr (.inr (.inr (fun k => some (L k 0)))))))], dyW cyI (L 0) (DD 0), dyW cyI (L 1) (DD 1), dyW cyI (L 2) (DD 2), dyW cyI (L 3) (DD 3), dyW cyI (L 4) (DD 4), dyW cyI (L 5) (DD 5), dyW cyI A D]) := hD
  refine lv_astore_n (lv' := [(2, .ref (L 5 0)), (0, .ref (L 6 0)), (1, .ref (A 0))]) hx hb dX2_restore_10 rfl hl (by decide) rfl (fun ls hl => ?_)
  refine lv_aload_n hx hb dX2_restore_11 rfl (lv_at hl 0 rfl) ?_
  refine lv_ifnull hx hb dX2_restore_12 ?_
  refine lv_aload_n hx hb dX2_restore_15 rfl (lv_at hl 2 rfl) ?_
  refine lv_aload_n hx hb dX2_restore_16 rfl (lv_at hl 0 rfl) ?_
  refine gVv (gs := [[(L 6 0, .inr (2, [.ref (L 6 1), .int ((6 : Int32))]))], [(L 6 1, .inl (cyO, 6, .inr (.inr (.inr (.inr (fun k => some (L k 0)))))))], dyW cyI (L 0) (DD 0), dyW cyI (L 1) (DD 1), dyW cyI (L 2) (DD 2), dyW cyI (L 3) (DD 3), dyW cyI (L 4) (DD 4), dyW cyI (L 5) (DD 5), dyW cyI A D]) (As := [.ref (L 5 0)]) (rest := []) ⟨hx, hb, hml, hown, hts⟩ (c_X1_copyFrom l G cyI cyO A (L 5) D (DD 5)) (cwV 1 hts gX2_restore_X1_copyFrom rfl rfl rfl (by decide +kernel) ⟨Nat.le_of_ble_eq_true rfl, Nat.le_of_ble_eq_true rfl⟩) hK hP hD hS hA [8, 7] rfl rfl rfl 0 1 rfl rfl rfl hl.1 rfl (Nat.le_of_ble_eq_true rfl) dX2_restore_17 ⟨Nat.le_refl _, Nat.le_refl _⟩ (fun H locs hP hD hS => ?_)
  have hP : va_P G vwCl (cat [[(L 6 0, .inr (2, [.ref (L 6 1), .int ((6 : Int32))]))], [(L 6 1, .inl (cyO, 6, .inr (.inr (.inr (.inr (fun k => some (L k 0)))))))], dyW cyI (L 0) (DD 0), dyW cyI (L 1) (DD 1), dyW cyI (L 2) (DD 2), dyW cyI (L 3) (DD 3), dyW cyI (L 4) (DD 4), dyW cyI (L 5) (DD 5), dyW cyI A (dCopy D (DD 5))]) H := hP
  have hD : va_D A9 (cat [[(L 6 0, .inr (2, [.ref (L 6 1), .int ((6 : Int32))]))], [(L 6 1, .inl (cyO, 6, .inr (.inr (.inr (.inr (fun k => some (L k 0)))))))], dyW cyI (L 0) (DD 0), dyW cyI (L 1) (DD 1), dyW cyI (L 2) (DD 2), dyW cyI (L 3) (DD 3), dyW cyI (L 4) (DD 4), dyW cyI (L 5) (DD 5), dyW cyI A (dCopy D (DD 5))]) := hD
  refine lv_aload_n hx hb dX2_restore_20 rfl (lv_at hl 1 rfl) ?_
  refine lv_dup hx hb dX2_restore_21 rfl ?_
  refine va_get (v := .int ((6 : Int32))) (C := RX2) (T := TX2) (N := 2) hx hb hts hinX2 hown hK hP 0 rfl rfl 1 (by decide) hf17 (fun _ h9 => h9) rfl dX2_restore_22 ?_
  refine lv_iconst (v := (1 : Int32)) hx hb dX2_restore_25 (by decide) ?_
  refine lv_isub hx hb dX2_restore_26 ?_
  refine top_i (x' := (5 : Int32)) (by decide) ?_
  refine va_put (v := .int ((5 : Int32))) (ty := .int) (C := RX2) (T := TX2) (N := 2) hx hb hts hinX2 tyX2 tyX2_ok nmX2 hown hK hP hD hS 0 rfl rfl 1 (by decide) hf17 (fun _ h9 => h9) rfl (by first | rfl | decide +kernel) rfl rfl (Nat.le_of_ble_eq_true rfl) dX2_restore_27 (fun H locs hP hD hS => ?_)
  have hP : va_P G vwCl (cat [[(L 6 0, .inr (2, [.ref (L 6 1), .int ((5 : Int32))]))], [(L 6 1, .inl (cyO, 6, .inr (.inr (.inr (.inr (fun k => some (L k 0)))))))], dyW cyI (L 0) (DD 0), dyW cyI (L 1) (DD 1), dyW cyI (L 2) (DD 2), dyW cyI (L 3) (DD 3), dyW cyI (L 4) (DD 4), dyW cyI (L 5) (DD 5), dyW cyI A (dCopy D (DD 5))]) H := hP
  have hD : va_D A9 (cat [[(L 6 0, .inr (2, [.ref (L 6 1), .int ((5 : Int32))]))], [(L 6 1, .inl (cyO, 6, .inr (.inr (.inr (.inr (fun k => some (L k 0)))))))], dyW cyI (L 0) (DD 0), dyW cyI (L 1) (DD 1), dyW cyI (L 2) (DD 2), dyW cyI (L 3) (DD 3), dyW cyI (L 4) (DD 4), dyW cyI (L 5) (DD 5), dyW cyI A (dCopy D (DD 5))]) := hD
  refine lv_aload_n hx hb dX2_restore_30 rfl (lv_at hl 1 rfl) ?_
  refine va_get (v := .int ((5 : Int32))) (C := RX2) (T := TX2) (N := 2) hx hb hts hinX2 hown hK hP 0 rfl rfl 1 (by decide) hf17 (fun _ h9 => h9) rfl dX2_restore_31 ?_
  have hP : va_P G vwCl (cat [hiW cyI cyO L ((5, DD)), dyW cyI A (dCopy D (DD 5))]) H := hP
  have hD : va_D A9 (cat [hiW cyI cyO L ((5, DD)), dyW cyI A (dCopy D (DD 5))]) := hD
  exact end_i hx hb hr hlocks hK hP hD hS (rfl) dX2_restore_34

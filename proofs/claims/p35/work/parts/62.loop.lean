/-! ===== the law: its loop ===== -/
/-- the cell's value: a number, whichever it is -/
abbrev CS (l : Launch) (y : MethodName) (ws : List Cond) (rm : Room) (b Ln : Nat) (xs : Nat → Int32) (k : Nat) : Prop :=
  ∀ sz : Nat, Met l y ws rm (va_Pc [.ref b, .int (nI k)] (fun U => U.heap.size = sz ∧ va_X b Ln xs U U.heap ∧ b < U.heap.size)) (va_Qi (fun (_ : Int32) (_ : Unit) => True) (fun _ _ => True) (fun q => sz ≤ q)) 0 0 (fun q => sz ≤ q)
abbrev rm_L_cell : Room := { frames := 0, cells := 0, slots := 0, locals := 0 }
set_option maxHeartbeats 4000000 in
theorem c_L_cell (l : Launch) (b Ln : Nat) (xs : Nat → Int32) (k : Nat) (hk : k < 1000) (hLn : Ln ≤ 260) : CS l yL_cell wsL_cell rm_L_cell b Ln xs k := by
  intro sz
  refine Met.ofW (cc := cL_cell) (maxL := 2) (ret := some .int) (by decide) rfl ?_
  intro p e s m args below meth c s₁ B hml hv
  obtain ⟨rfl, hsz, hX, hbl⟩ := hv
  subst hsz
  have hl := lv_entry [.ref b, .int (nI k)] (n := 2) (Nat.le_of_ble_eq_true rfl)
  rw [lg_entry_eq]
  generalize (lg_sl [.ref b, .int (nI k)] ++ List.replicate (2 - (lg_sl [.ref b, .int (nI k)]).length) Slot.unset).toArray = ls at hl ⊢
  have hl : lv_has ls 2 [(0, .ref b), (1, .int (nI k))] := hl
  have hx := B.exec
  have hb := B.bytes
  have hts := atoms_spec (ws := wsL_cell) B.pre
  have hown : s.vm.findClass RL = some m.cls := findClass_of_methodNamed B.named
  have hS : va_S (fun q => s.heap.size ≤ q) s.heap s.heap [] := va_S.rf
  have hbA : ¬ (fun q : Nat => s.heap.size ≤ q) b := Nat.not_le.mpr hbl
  refine lv_iload_n hx hb dL_cell_0 rfl (lv_at hl 1 rfl) ?_
  refine lv_aload_n hx hb dL_cell_1 rfl (lv_at hl 0 rfl) ?_
  refine va_slen hx hb hX hbl hbA hS dL_cell_2 ?_
  refine lv_icmp_ge (tgt := 12) hx hb dL_cell_3 (by decide) (fun c1 => ?_) (fun c1 => ?_)
  · refine lv_ldc (v := (-1028477387 : Int32)) hx hb hown (hts (.constant RL 7 (-1028477387)) (by decide +kernel)) dL_cell_12 ?_
    refine lv_iload_n hx hb dL_cell_14 rfl (lv_at hl 1 rfl) ?_
    refine lv_iconst (v := (1 : Int32)) hx hb dL_cell_15 (by decide) ?_
    refine lv_iadd hx hb dL_cell_16 ?_
    refine lv_imul hx hb dL_cell_17 ?_
    exact W.iret hx hb B.returns (fun t ht hW => ⟨⟨_, (), rfl, trivial, trivial⟩, hS.F ht⟩) hS.2.2 dL_cell_18 B.notSynchronized
  · have hkL : k < Ln := by
      rcases Nat.lt_or_ge k Ln with h9 | h9
      · exact h9
      · exact absurd (nI_le (a := Ln) (b := k) h9 (by omega)) c1
    refine lv_aload_n hx hb dL_cell_6 rfl (lv_at hl 0 rfl) ?_
    refine lv_iload_n hx hb dL_cell_7 rfl (lv_at hl 1 rfl) ?_
    refine va_sld hx hb hX hbl hbA hS (vp_in_nI (n := k) hkL (by omega)) dL_cell_8 ?_
    refine lv_goto (tgt := 18) hx hb dL_cell_9 (by decide) ?_
    exact W.iret hx hb B.returns (fun t ht hW => ⟨⟨_, (), rfl, trivial, trivial⟩, hS.F ht⟩) hS.2.2 dL_cell_18 B.notSynchronized
section CELL
variable {p : Program} {l : Launch} {e : Env} {R : Room} {s : State} {m : MethodId} {args : Array Value} {below : List Frame} {meth : Method} {c : Code} {H : Heap} {locs : List Loc} {cells slots : Nat} {Q : State → Prop}
variable {pc : Nat} {ls : Array Slot} {st0 rest As : List Value} {A0 : Nat → Prop} {D : va_G} {cl : List vw_C} {y : MethodName} {ws Ts : List Cond} {rm : Room} {wl : va_W} {cc bytes : ByteArray} {maxL nL n index b Ln k : Nat} {xs : Nat → Int32} {ret : Option FieldType} {own : String}
theorem gCell (fix : CallFix p m c cc nL s args Ts own) (hM : CS l y ws rm b Ln xs k) (cw : CallB R s args own index y bytes maxL ret ws rm 0 0 2 ∧ (Cond.static y).before args s = true)
    (hscr : va_X b Ln xs s s.heap) (hbl : b < s.heap.size) (hbA : ¬ A0 b) (hP : va_P D cl wl H) (hS : va_S A0 s.heap H locs) (hA : ∀ q, s.heap.size ≤ q → A0 q)
    (hsize : ls.size = nL) (hst : st0 = .int (nI k) :: .ref b :: rest) (hW : (rest.map fun v => v.category).sum ≤ 8) (hdg : decode cc pc = .ok (.invokestatic index, 3)) (hf : cells ≤ R.cells ∧ slots ≤ R.slots)
    (kk : ∀ (x : Int32) (H1 : Heap) (locs1 : List Loc), va_P D cl wl H1 → va_S A0 s.heap H1 locs1 → W p l e R s m args below meth c H1 locs1 cells slots Q (F0 m (pc + 3) ls (.int x :: rest))) :
    W p l e R s m args below meth c H locs cells slots Q (F0 m pc ls st0) := by
  have hXH : va_X b Ln xs s H := hscr.kept (hS.2.1 b hbl hbA)
  have hbH : b < H.size := Nat.lt_of_lt_of_le hbl hS.1
  have hpre : PreS s H (va_Pc [.ref b, .int (nI k)] (fun U => U.heap.size = H.size ∧ va_X b Ln xs U U.heap ∧ b < U.heap.size)) [.ref b, .int (nI k)] := by
    refine ⟨fun a U g mk q => ?_, fun U hU hW => ?_⟩
    · obtain ⟨q0, q1, q2, q3⟩ := q
      exact ⟨q0, q1, va_X.moved (u := U) (U := U.calling g mk a) (Vm.Alike.refl U.vm) q2, q3⟩
    · exact ⟨rfl, by rw [hU], by rw [hU]; exact va_X.moved hW.alike hXH, by rw [hU]; exact hbH⟩
  have hFc : ∀ q, (fun q : Nat => H.size ≤ q) q → A0 q := fun q h => hA q (Nat.le_trans hS.1 h)
  refine va_calli (va_runS (As := [.ref b, .int (nI k)]) (rest := rest) fix (hM H.size) cw hpre rfl rfl hsize hst (lv_room hW) hdg hf) hS (fun q _ h => hFc q h) hFc (fun r u t H1 locs1 ht hvm hw hB hz hk hS1 => ?_)
  refine kk r H1 locs1 (P_iff.mpr fun q hm => ?_) hS1
  have h9 := P_iff.mp hP q hm
  exact h9.kept (hk q.1 h9.lt (Nat.not_le.mpr h9.lt))
end CELL
def LC (p9 : Program) (l : Launch) (s9 : State) (m9 : MethodId) (c9 : Code) (A9 : Nat → Prop) (G : va_G) (cyI cyO : ClassId) (b Ln : Nat) (xs : Nat → Int32) : Prop :=
  p9.tables.exec = Jvm.exec ∧ c9.code = cL_law ∧ c9.maxLocals = 11 ∧ s9.vm.findClass RL = some m9.cls ∧ (∀ w ∈ wsL_law, w.before #[Value.ref b] s9 = true) ∧ va_X b Ln xs s9 s9.heap ∧ b < s9.heap.size ∧ ¬ A9 b ∧ (∀ q : Nat, s9.heap.size ≤ q → A9 q) ∧
  va_K G vwCl (TY cyI cyO) s9 ∧ XS A9 s9 s9.heap ∧ l.stackTraces = false ∧ Ln ≤ 260
def LJ (G : va_G) (cyI cyO : ClassId) (s9 : State) (A9 : Nat → Prop) (b h : Nat) (Ad At As Ac : Nat → Nat) (ag ap aw aq ar : Nat) (C : TS) (i : Nat) (H : Heap) (locs : List Loc) (ls : Array Slot) : Prop :=
  ∃ (L : Nat → Nat → Nat) (D T : DS) (S : SS) (V : HS) (M : Nat) (g p w q r : Nat → Int32), va_P G vwCl (cat [[(h, .inr (5, [.ref (Ad 0), .ref (At 0), .ref (As 0), .ref (Ac 0), .ref (L 6 0)]))], dyW cyI Ad (D), dyW cyI At (T), shW cyI As (S), ctW cyI Ac C, hiW cyI cyO L (V), [(ag, .inl (cyI, 6, .inl (g)))], [(ap, .inl (cyI, 20, .inl (p)))], [(aw, .inl (cyI, 20, .inl (w)))], [(aq, .inl (cyI, 20, .inl (q)))], [(ar, .inl (cyI, 20, .inl (r)))]]) H ∧ va_D A9 (cat [[(h, .inr (5, [.ref (Ad 0), .ref (At 0), .ref (As 0), .ref (Ac 0), .ref (L 6 0)]))], dyW cyI Ad (D), dyW cyI At (T), shW cyI As (S), ctW cyI Ac C, hiW cyI cyO L (V), [(ag, .inl (cyI, 6, .inl (g)))], [(ap, .inl (cyI, 20, .inl (p)))], [(aw, .inl (cyI, 20, .inl (w)))], [(aq, .inl (cyI, 20, .inl (q)))], [(ar, .inl (cyI, 20, .inl (r)))]]) ∧ va_S A9 s9.heap H locs ∧
    lv_has ls 11 [(7, .int (nI i)), (6, .ref ar), (5, .ref aq), (4, .ref aw), (3, .ref ap), (2, .ref ag), (1, .ref h), (0, .ref b)] ∧ RA D M g p w q r ∧ V.1 ≤ 6
set_option maxHeartbeats 4000000 in
set_option maxRecDepth 100000 in
theorem law_181 {p9 : Program} {l : Launch} {e9 : Env} {s9 : State} {m9 : MethodId} {b9 : List Frame} {t9 : Method} {c9 : Code} {A9 : Nat → Prop} {G : va_G} {cyI cyO : ClassId} {b Ln : Nat} {xs : Nat → Int32} {Q : State → Prop} {h : Nat} {Ad At As Ac : Nat → Nat} {ag ap aw aq ar : Nat} {C : TS} {i cells slots : Nat} {H : Heap} {locs : List Loc} {ls : Array Slot} {L : Nat → Nat → Nat} {D T : DS} {S : SS} {V : HS} {M : Nat} {g p w q r : Nat → Int32} {x y : Int32} (hC : LC p9 l s9 m9 c9 A9 G cyI cyO b Ln xs) (hi : i < 56) (hcs : cells + 27 ≤ 600172 ∧ slots + 260 ≤ 7300668) (hP : va_P G vwCl (cat [[(h, .inr (5, [.ref (Ad 0), .ref (At 0), .ref (As 0), .ref (Ac 0), .ref (L 6 0)]))], dyW cyI Ad (D), dyW cyI At (T), shW cyI As (S), ctW cyI Ac C, hiW cyI cyO L (V), [(ag, .inl (cyI, 6, .inl (g)))], [(ap, .inl (cyI, 20, .inl (p)))], [(aw, .inl (cyI, 20, .inl (w)))], [(aq, .inl (cyI, 20, .inl (q)))], [(ar, .inl (cyI, 20, .inl (r)))]]) H) (hD : va_D A9 (cat [[(h, .inr (5, [.ref (Ad 0), .ref (At 0), .ref (As 0), .ref (Ac 0), .ref (L 6 0)]))], dyW cyI Ad (D), dyW cyI At (T), shW cyI As (S), ctW cyI Ac C, hiW cyI cyO L (V), [(ag, .inl (cyI, 6, .inl (g)))], [(ap, .inl (cyI, 20, .inl (p)))], [(aw, .inl (cyI, 20, .inl (w)))], [(aq, .inl (cyI, 20, .inl (q)))], [(ar, .inl (cyI, 20, .inl (r)))]])) (hS : va_S A9 s9.heap H locs) (hl : lv_has ls 11 [(9, .int y), (8, .int x), (7, .int (nI i)), (6, .ref ar), (5, .ref aq), (4, .ref aw), (3, .ref ap), (2, .ref ag), (1, .ref h), (0, .ref b)]) (hR : RA D M g p w q r) (hV : V.1 ≤ 6)
    (kk : ∀ (H : Heap) (locs : List Loc) (ls : Array Slot), LJ G cyI cyO s9 A9 b h Ad At As Ac ag ap aw aq ar C (i + 1) H locs ls → W p9 l e9 room_1 s9 m9 #[Value.ref b] b9 t9 c9 H locs (cells + 27) (slots + 260) Q (F0 m9 84 ls [])) :
    W p9 l e9 room_1 s9 m9 #[Value.ref b] b9 t9 c9 H locs cells slots Q (F0 m9 181 ls [.int (1 : Int32)]) := by
  obtain ⟨hx, hb, hml, hown, hts, hscr, hbl, hbA, hA, hK, hX, htr, hLn⟩ := hC
  refine lv_istore (lv' := [(10, .int (1 : Int32)), (9, .int y), (8, .int x), (7, .int (nI i)), (6, .ref ar), (5, .ref aq), (4, .ref aw), (3, .ref ap), (2, .ref ag), (1, .ref h), (0, .ref b)]) hx hb dL_law_181 hl (by decide) rfl (fun ls hl => ?_)
  refine lv_iload hx hb dL_law_183 (lv_at hl 0 rfl) ?_
  refine lv_if_eq (tgt := 201) hx hb dL_law_185 (by decide) (fun c1 => absurd c1 (by decide)) (fun _ => ?_)
  refine lv_aload_n hx hb dL_law_188 rfl (lv_at hl 9 rfl) ?_
  refine lv_aload_n hx hb dL_law_189 rfl (lv_at hl 8 rfl) ?_
  refine lv_aload_n hx hb dL_law_190 rfl (lv_at hl 7 rfl) ?_
  refine lv_aload hx hb dL_law_191 (lv_at hl 6 rfl) ?_
  refine lv_aload hx hb dL_law_193 (lv_at hl 5 rfl) ?_
  refine gSa (gs := [[(h, .inr (5, [.ref (Ad 0), .ref (At 0), .ref (As 0), .ref (Ac 0), .ref (L 6 0)]))], dyW cyI Ad (D), dyW cyI At (T), shW cyI As (S), ctW cyI Ac C, hiW cyI cyO L (V), [(ag, .inl (cyI, 6, .inl (g)))], [(ap, .inl (cyI, 20, .inl (p)))], [(aw, .inl (cyI, 20, .inl (w)))], [(aq, .inl (cyI, 20, .inl (q)))], [(ar, .inl (cyI, 20, .inl (r)))]]) (As := [.ref h, .ref ag, .ref ap, .ref aw, .ref aq]) (rest := []) ⟨hx, hb, hml, hown, hts⟩ (c_L_isSo l G cyI cyO h Ad At As Ac L ag ap aw aq S T D M g p w q hR.1) (va_cwS 5 hts gL_law_L_isSo rfl rfl rfl (by decide +kernel) ⟨Nat.le_of_ble_eq_true rfl, Nat.le_of_ble_eq_true rfl⟩) hK hP hD hS hA [0, 1, 2, 3, 6, 7, 8, 9] rfl rfl (rfl : (8 : Nat) = 8) rfl hl.1 rfl (Nat.le_of_ble_eq_true rfl) dL_law_195 hcs (fun H locs hP hD hS => ?_)
  have hP : va_P G vwCl (cat [[(h, .inr (5, [.ref (Ad 0), .ref (At 0), .ref (As 0), .ref (Ac 0), .ref (L 6 0)]))], dyW cyI Ad (D), dyW cyI At ((isM D 6 (isS D D.2.2.2.2.2.1 S) T).2), shW cyI As (shOut (isM D 6 (isS D D.2.2.2.2.2.1 S) T).1 D), ctW cyI Ac C, hiW cyI cyO L (V), [(ag, .inl (cyI, 6, .inl (g)))], [(ap, .inl (cyI, 20, .inl (p)))], [(aw, .inl (cyI, 20, .inl (w)))], [(aq, .inl (cyI, 20, .inl (q)))], [(ar, .inl (cyI, 20, .inl (r)))]]) H := hP
  have hD : va_D A9 (cat [[(h, .inr (5, [.ref (Ad 0), .ref (At 0), .ref (As 0), .ref (Ac 0), .ref (L 6 0)]))], dyW cyI Ad (D), dyW cyI At ((isM D 6 (isS D D.2.2.2.2.2.1 S) T).2), shW cyI As (shOut (isM D 6 (isS D D.2.2.2.2.2.1 S) T).1 D), ctW cyI Ac C, hiW cyI cyO L (V), [(ag, .inl (cyI, 6, .inl (g)))], [(ap, .inl (cyI, 20, .inl (p)))], [(aw, .inl (cyI, 20, .inl (w)))], [(aq, .inl (cyI, 20, .inl (q)))], [(ar, .inl (cyI, 20, .inl (r)))]]) := hD
  refine lv_if_ne (tgt := 203) hx hb dL_law_198 (by decide) (fun _ => ?_) (fun c1 => absurd c1 (by decide))
  refine lv_iinc (v := nI (i + 1)) (lv' := [(7, .int (nI (i + 1))), (10, .int (1 : Int32)), (9, .int y), (8, .int x), (6, .ref ar), (5, .ref aq), (4, .ref aw), (3, .ref ap), (2, .ref ag), (1, .ref h), (0, .ref b)]) hx hb dL_law_203 hl (k := 3) rfl (nI_add i 1) (by decide) rfl (fun ls hl => ?_)
  refine lv_goto (tgt := 84) hx hb dL_law_206 (by decide) ?_
  exact kk _ _ _ ⟨L, D, (isM D 6 (isS D D.2.2.2.2.2.1 S) T).2, shOut (isM D 6 (isS D D.2.2.2.2.2.1 S) T).1 D, V, M, g, p, w, q, r, hP, hD, hS, lv_sub hl [0, 4, 5, 6, 7, 8, 9, 10] rfl, hR, hV⟩
set_option maxHeartbeats 4000000 in
set_option maxRecDepth 100000 in
theorem law_doors {p9 : Program} {l : Launch} {e9 : Env} {s9 : State} {m9 : MethodId} {b9 : List Frame} {t9 : Method} {c9 : Code} {A9 : Nat → Prop} {G : va_G} {cyI cyO : ClassId} {b Ln : Nat} {xs : Nat → Int32} {Q : State → Prop} {h : Nat} {Ad At As Ac : Nat → Nat} {ag ap aw aq ar : Nat} {C : TS} {i cells slots : Nat} {H : Heap} {locs : List Loc} {ls : Array Slot} {L : Nat → Nat → Nat} {D T : DS} {S : SS} {V : HS} {M : Nat} {g p w q r : Nat → Int32} {x y v : Int32} (hC : LC p9 l s9 m9 c9 A9 G cyI cyO b Ln xs) (hi : i < 56) (hcs : cells + 31 ≤ 600172 ∧ slots + 298 ≤ 7300668) (hP : va_P G vwCl (cat [[(h, .inr (5, [.ref (Ad 0), .ref (At 0), .ref (As 0), .ref (Ac 0), .ref (L 6 0)]))], dyW cyI Ad (D), dyW cyI At (T), shW cyI As (S), ctW cyI Ac C, hiW cyI cyO L (V), [(ag, .inl (cyI, 6, .inl (g)))], [(ap, .inl (cyI, 20, .inl (p)))], [(aw, .inl (cyI, 20, .inl (w)))], [(aq, .inl (cyI, 20, .inl (q)))], [(ar, .inl (cyI, 20, .inl (r)))]]) H) (hD : va_D A9 (cat [[(h, .inr (5, [.ref (Ad 0), .ref (At 0), .ref (As 0), .ref (Ac 0), .ref (L 6 0)]))], dyW cyI Ad (D), dyW cyI At (T), shW cyI As (S), ctW cyI Ac C, hiW cyI cyO L (V), [(ag, .inl (cyI, 6, .inl (g)))], [(ap, .inl (cyI, 20, .inl (p)))], [(aw, .inl (cyI, 20, .inl (w)))], [(aq, .inl (cyI, 20, .inl (q)))], [(ar, .inl (cyI, 20, .inl (r)))]])) (hS : va_S A9 s9.heap H locs) (hl : lv_has ls 11 [(9, .int y), (8, .int x), (7, .int (nI i)), (6, .ref ar), (5, .ref aq), (4, .ref aw), (3, .ref ap), (2, .ref ag), (1, .ref h), (0, .ref b)]) (hR : RA D M g p w q r) (hV : V.1 ≤ 6)
    (kk : ∀ (H : Heap) (locs : List Loc) (ls : Array Slot), LJ G cyI cyO s9 A9 b h Ad At As Ac ag ap aw aq ar C (i + 1) H locs ls → W p9 l e9 room_1 s9 m9 #[Value.ref b] b9 t9 c9 H locs (cells + 31) (slots + 298) Q (F0 m9 84 ls [])) :
    W p9 l e9 room_1 s9 m9 #[Value.ref b] b9 t9 c9 H locs cells slots Q (F0 m9 142 ls [.int v, .ref h]) := by
  have hC2 := hC
  obtain ⟨hx, hb, hml, hown, hts, hscr, hbl, hbA, hA, hK, hX, htr, hLn⟩ := hC
  refine lv_iload hx hb dL_law_142 (lv_at hl 0 rfl) ?_
  refine lv_aload_n hx hb dL_law_144 rfl (lv_at hl 7 rfl) ?_
  refine lv_aload_n hx hb dL_law_145 rfl (lv_at hl 6 rfl) ?_
  refine lv_aload hx hb dL_law_146 (lv_at hl 5 rfl) ?_
  refine gSg (gs := [[(h, .inr (5, [.ref (Ad 0), .ref (At 0), .ref (As 0), .ref (Ac 0), .ref (L 6 0)]))], dyW cyI Ad (D), dyW cyI At (T), shW cyI As (S), ctW cyI Ac C, hiW cyI cyO L (V), [(ag, .inl (cyI, 6, .inl (g)))], [(ap, .inl (cyI, 20, .inl (p)))], [(aw, .inl (cyI, 20, .inl (w)))], [(aq, .inl (cyI, 20, .inl (q)))], [(ar, .inl (cyI, 20, .inl (r)))]]) (As := [.ref h, .int v, .int y, .ref ag, .ref ap, .ref aw]) (rest := []) ⟨hx, hb, hml, hown, hts⟩ (c_L_doors l G cyI cyO h Ad At As Ac L ag ap aw D V hV M g p w q r v y hR htr) (va_cwS 6 hts gL_law_L_doors rfl rfl rfl (by decide +kernel) ⟨Nat.le_of_ble_eq_true rfl, Nat.le_of_ble_eq_true rfl⟩) hK hX hP hD hS hA [0, 1, 5, 6, 7, 8] rfl rfl (fun u => (rfl : (6 : Nat) = 6)) rfl hl.1 rfl (Nat.le_of_ble_eq_true rfl) dL_law_148 ⟨by show cells + 4 ≤ 600172; omega, by show slots + 24 ≤ 7300668; omega⟩ (fun u hu H locs hP hD hS => ?_)
  obtain ⟨D', V', L', g', p', w'⟩ := u
  obtain ⟨hR', hV'⟩ := hu
  have hP : va_P G vwCl (cat [[(h, .inr (5, [.ref (Ad 0), .ref (At 0), .ref (As 0), .ref (Ac 0), .ref (L' 6 0)]))], dyW cyI Ad (D'), dyW cyI At (T), shW cyI As (S), ctW cyI Ac C, hiW cyI cyO L' (V'), [(ag, .inl (cyI, 6, .inl (g')))], [(ap, .inl (cyI, 20, .inl (p')))], [(aw, .inl (cyI, 20, .inl (w')))], [(aq, .inl (cyI, 20, .inl (q)))], [(ar, .inl (cyI, 20, .inl (r)))]]) H := hP
  have hD : va_D A9 (cat [[(h, .inr (5, [.ref (Ad 0), .ref (At 0), .ref (As 0), .ref (Ac 0), .ref (L' 6 0)]))], dyW cyI Ad (D'), dyW cyI At (T), shW cyI As (S), ctW cyI Ac C, hiW cyI cyO L' (V'), [(ag, .inl (cyI, 6, .inl (g')))], [(ap, .inl (cyI, 20, .inl (p')))], [(aw, .inl (cyI, 20, .inl (w')))], [(aq, .inl (cyI, 20, .inl (q)))], [(ar, .inl (cyI, 20, .inl (r)))]]) := hD
  refine lv_goto (tgt := 181) hx hb dL_law_151 (by decide) ?_
  exact law_181 hC2 hi ⟨by omega, by omega⟩ hP hD hS hl hR' hV' (fun H locs ls hJ => W.widen (k := cells + 31) (n := slots + 298) (by omega) (by omega) (kk H locs ls hJ))
set_option maxHeartbeats 4000000 in
set_option maxRecDepth 100000 in
theorem law_others {p9 : Program} {l : Launch} {e9 : Env} {s9 : State} {m9 : MethodId} {b9 : List Frame} {t9 : Method} {c9 : Code} {A9 : Nat → Prop} {G : va_G} {cyI cyO : ClassId} {b Ln : Nat} {xs : Nat → Int32} {Q : State → Prop} {h : Nat} {Ad At As Ac : Nat → Nat} {ag ap aw aq ar : Nat} {C : TS} {i cells slots : Nat} {H : Heap} {locs : List Loc} {ls : Array Slot} {L : Nat → Nat → Nat} {D T : DS} {S : SS} {V : HS} {M : Nat} {g p w q r : Nat → Int32} {x y v : Int32} (hC : LC p9 l s9 m9 c9 A9 G cyI cyO b Ln xs) (hi : i < 56) (hcs : cells + 31 ≤ 600172 ∧ slots + 298 ≤ 7300668) (hP : va_P G vwCl (cat [[(h, .inr (5, [.ref (Ad 0), .ref (At 0), .ref (As 0), .ref (Ac 0), .ref (L 6 0)]))], dyW cyI Ad (D), dyW cyI At (T), shW cyI As (S), ctW cyI Ac C, hiW cyI cyO L (V), [(ag, .inl (cyI, 6, .inl (g)))], [(ap, .inl (cyI, 20, .inl (p)))], [(aw, .inl (cyI, 20, .inl (w)))], [(aq, .inl (cyI, 20, .inl (q)))], [(ar, .inl (cyI, 20, .inl (r)))]]) H) (hD : va_D A9 (cat [[(h, .inr (5, [.ref (Ad 0), .ref (At 0), .ref (As 0), .ref (Ac 0), .ref (L 6 0)]))], dyW cyI Ad (D), dyW cyI At (T), shW cyI As (S), ctW cyI Ac C, hiW cyI cyO L (V), [(ag, .inl (cyI, 6, .inl (g)))], [(ap, .inl (cyI, 20, .inl (p)))], [(aw, .inl (cyI, 20, .inl (w)))], [(aq, .inl (cyI, 20, .inl (q)))], [(ar, .inl (cyI, 20, .inl (r)))]])) (hS : va_S A9 s9.heap H locs) (hl : lv_has ls 11 [(9, .int y), (8, .int x), (7, .int (nI i)), (6, .ref ar), (5, .ref aq), (4, .ref aw), (3, .ref ap), (2, .ref ag), (1, .ref h), (0, .ref b)]) (hR : RA D M g p w q r) (hV : V.1 ≤ 6)
    (kk : ∀ (H : Heap) (locs : List Loc) (ls : Array Slot), LJ G cyI cyO s9 A9 b h Ad At As Ac ag ap aw aq ar C (i + 1) H locs ls → W p9 l e9 room_1 s9 m9 #[Value.ref b] b9 t9 c9 H locs (cells + 31) (slots + 298) Q (F0 m9 84 ls [])) :
    W p9 l e9 room_1 s9 m9 #[Value.ref b] b9 t9 c9 H locs cells slots Q (F0 m9 168 ls [.int v, .ref h]) := by
  have hC2 := hC
  obtain ⟨hx, hb, hml, hown, hts, hscr, hbl, hbA, hA, hK, hX, htr, hLn⟩ := hC
  refine lv_iload hx hb dL_law_168 (lv_at hl 0 rfl) ?_
  refine lv_aload_n hx hb dL_law_170 rfl (lv_at hl 7 rfl) ?_
  refine lv_aload_n hx hb dL_law_171 rfl (lv_at hl 6 rfl) ?_
  refine lv_aload hx hb dL_law_172 (lv_at hl 5 rfl) ?_
  refine lv_aload hx hb dL_law_174 (lv_at hl 4 rfl) ?_
  refine lv_aload hx hb dL_law_176 (lv_at hl 3 rfl) ?_
  refine gSg (gs := [[(h, .inr (5, [.ref (Ad 0), .ref (At 0), .ref (As 0), .ref (Ac 0), .ref (L 6 0)]))], dyW cyI Ad (D), dyW cyI At (T), shW cyI As (S), ctW cyI Ac C, hiW cyI cyO L (V), [(ag, .inl (cyI, 6, .inl (g)))], [(ap, .inl (cyI, 20, .inl (p)))], [(aw, .inl (cyI, 20, .inl (w)))], [(aq, .inl (cyI, 20, .inl (q)))], [(ar, .inl (cyI, 20, .inl (r)))]]) (As := [.ref h, .int v, .int y, .ref ag, .ref ap, .ref aw, .ref aq, .ref ar]) (rest := []) ⟨hx, hb, hml, hown, hts⟩ (c_L_others l G cyI cyO h Ad At As Ac L ag ap aw aq ar S D V hV M g p w q r v y hR htr) (va_cwS 8 hts gL_law_L_others rfl rfl rfl (by decide +kernel) ⟨Nat.le_of_ble_eq_true rfl, Nat.le_of_ble_eq_true rfl⟩) hK hX hP hD hS hA [0, 1, 3, 5, 6, 7, 8, 9, 10] rfl rfl (fun u => (rfl : (9 : Nat) = 9)) rfl hl.1 rfl (Nat.le_of_ble_eq_true rfl) dL_law_178 ⟨by show cells + 4 ≤ 600172; omega, by show slots + 38 ≤ 7300668; omega⟩ (fun u hu H locs hP hD hS => ?_)
  obtain ⟨D', S', V', L', M', g', w', q', r'⟩ := u
  obtain ⟨hR', hV'⟩ := hu
  have hP : va_P G vwCl (cat [[(h, .inr (5, [.ref (Ad 0), .ref (At 0), .ref (As 0), .ref (Ac 0), .ref (L' 6 0)]))], dyW cyI Ad (D'), dyW cyI At (T), shW cyI As (S'), ctW cyI Ac C, hiW cyI cyO L' (V'), [(ag, .inl (cyI, 6, .inl (g')))], [(ap, .inl (cyI, 20, .inl (p)))], [(aw, .inl (cyI, 20, .inl (w')))], [(aq, .inl (cyI, 20, .inl (q')))], [(ar, .inl (cyI, 20, .inl (r')))]]) H := hP
  have hD : va_D A9 (cat [[(h, .inr (5, [.ref (Ad 0), .ref (At 0), .ref (As 0), .ref (Ac 0), .ref (L' 6 0)]))], dyW cyI Ad (D'), dyW cyI At (T), shW cyI As (S'), ctW cyI Ac C, hiW cyI cyO L' (V'), [(ag, .inl (cyI, 6, .inl (g')))], [(ap, .inl (cyI, 20, .inl (p)))], [(aw, .inl (cyI, 20, .inl (w')))], [(aq, .inl (cyI, 20, .inl (q')))], [(ar, .inl (cyI, 20, .inl (r')))]]) := hD
  exact law_181 hC2 hi ⟨by omega, by omega⟩ hP hD hS hl hR' hV' (fun H locs ls hJ => W.widen (k := cells + 31) (n := slots + 298) (by omega) (by omega) (kk H locs ls hJ))
set_option maxHeartbeats 4000000 in
set_option maxRecDepth 100000 in
theorem law_turn {p9 : Program} {l : Launch} {e9 : Env} {s9 : State} {m9 : MethodId} {b9 : List Frame} {t9 : Method} {c9 : Code} {A9 : Nat → Prop} {G : va_G} {cyI cyO : ClassId} {b Ln : Nat} {xs : Nat → Int32} {Q : State → Prop} {h : Nat} {Ad At As Ac : Nat → Nat} {ag ap aw aq ar : Nat} {C : TS} {i cells slots : Nat} {H : Heap} {locs : List Loc} {ls : Array Slot} (hC : LC p9 l s9 m9 c9 A9 G cyI cyO b Ln xs) (hi : i < 56) (hcs : cells + 31 ≤ 600172 ∧ slots + 298 ≤ 7300668) (hJ : LJ G cyI cyO s9 A9 b h Ad At As Ac ag ap aw aq ar C i H locs ls)
    (kk : ∀ (H : Heap) (locs : List Loc) (ls : Array Slot), LJ G cyI cyO s9 A9 b h Ad At As Ac ag ap aw aq ar C (i + 1) H locs ls → W p9 l e9 room_1 s9 m9 #[Value.ref b] b9 t9 c9 H locs (cells + 31) (slots + 298) Q (F0 m9 84 ls [])) :
    W p9 l e9 room_1 s9 m9 #[Value.ref b] b9 t9 c9 H locs cells slots Q (F0 m9 91 ls []) := by
  have hC2 := hC
  obtain ⟨hx, hb, hml, hown, hts, hscr, hbl, hbA, hA, hK, hX, htr, hLn⟩ := hC
  obtain ⟨L, D, T, S, V, M, g, p, w, q, r, hP, hD, hS, hl, hR, hV⟩ := hJ
  refine lv_aload_n hx hb dL_law_91 rfl (lv_at hl 7 rfl) ?_
  refine lv_iconst (v := nI 2) hx hb dL_law_92 (by decide +kernel) ?_
  refine lv_iload hx hb dL_law_93 (lv_at hl 0 rfl) ?_
  refine lv_imul hx hb dL_law_95 ?_
  refine top_i (x' := nI (2 * i)) (pk_mul 2 i) ?_
  refine gCell (k := 2 * i) ⟨hx, hb, hml, hown, hts⟩ (c_L_cell l b Ln xs (2 * i) (by omega) hLn) (va_cwS 2 hts gL_law_L_cell rfl rfl rfl (by decide +kernel) ⟨Nat.le_of_ble_eq_true rfl, Nat.le_of_ble_eq_true rfl⟩) hscr hbl hbA hP hS hA hl.1 rfl (Nat.le_of_ble_eq_true rfl) dL_law_96 ⟨by show cells ≤ 600172; omega, by show slots ≤ 7300668; omega⟩ (fun x H locs hP hS => ?_)
  refine lv_istore (lv' := [(8, .int x), (7, .int (nI i)), (6, .ref ar), (5, .ref aq), (4, .ref aw), (3, .ref ap), (2, .ref ag), (1, .ref h), (0, .ref b)]) hx hb dL_law_99 hl (by decide) rfl (fun ls hl => ?_)
  refine lv_aload_n hx hb dL_law_101 rfl (lv_at hl 8 rfl) ?_
  refine lv_iconst (v := nI 2) hx hb dL_law_102 (by decide +kernel) ?_
  refine lv_iload hx hb dL_law_103 (lv_at hl 1 rfl) ?_
  refine lv_imul hx hb dL_law_105 ?_
  refine top_i (x' := nI (2 * i)) (pk_mul 2 i) ?_
  refine lv_iconst (v := (1 : Int32)) hx hb dL_law_106 (by decide) ?_
  refine lv_iadd hx hb dL_law_107 ?_
  refine top_i (x' := nI (2 * i + 1)) (nI_1 _) ?_
  refine gCell (k := 2 * i + 1) ⟨hx, hb, hml, hown, hts⟩ (c_L_cell l b Ln xs (2 * i + 1) (by omega) hLn) (va_cwS 2 hts gL_law_L_cell rfl rfl rfl (by decide +kernel) ⟨Nat.le_of_ble_eq_true rfl, Nat.le_of_ble_eq_true rfl⟩) hscr hbl hbA hP hS hA hl.1 rfl (Nat.le_of_ble_eq_true rfl) dL_law_108 ⟨by show cells ≤ 600172; omega, by show slots ≤ 7300668; omega⟩ (fun y H locs hP hS => ?_)
  refine lv_istore (lv' := [(9, .int y), (8, .int x), (7, .int (nI i)), (6, .ref ar), (5, .ref aq), (4, .ref aw), (3, .ref ap), (2, .ref ag), (1, .ref h), (0, .ref b)]) hx hb dL_law_111 hl (by decide) rfl (fun ls hl => ?_)
  have kd : ∀ v : Int32, W p9 l e9 room_1 s9 m9 #[Value.ref b] b9 t9 c9 H locs cells slots Q (F0 m9 142 ls [.int v, .ref h]) := fun v => law_doors hC2 hi hcs hP hD hS hl hR hV kk
  have ko : ∀ v : Int32, W p9 l e9 room_1 s9 m9 #[Value.ref b] b9 t9 c9 H locs cells slots Q (F0 m9 168 ls [.int v, .ref h]) := fun v => law_others hC2 hi hcs hP hD hS hl hR hV kk
  have k129 : W p9 l e9 room_1 s9 m9 #[Value.ref b] b9 t9 c9 H locs cells slots Q (F0 m9 129 ls []) := by
    refine lv_aload_n hx hb dL_law_129 rfl (lv_at hl 8 rfl) ?_
    refine lv_iload hx hb dL_law_130 (lv_at hl 2 rfl) ?_
    refine lv_iconst (v := (5 : Int32)) hx hb dL_law_132 (by decide) ?_
    refine lv_icmp_ge (tgt := 140) hx hb dL_law_133 (by decide) (fun _ => ?_) (fun _ => ?_)
    · refine lv_iload hx hb dL_law_140 (lv_at hl 1 rfl) ?_
      exact kd _
    · refine lv_iconst (v := (0 : Int32)) hx hb dL_law_136 (by decide) ?_
      refine lv_goto (tgt := 142) hx hb dL_law_137 (by decide) ?_
      exact kd _
  refine lv_iload hx hb dL_law_113 (lv_at hl 2 rfl) ?_
  refine lv_iconst (v := (5 : Int32)) hx hb dL_law_115 (by decide) ?_
  refine lv_icmp_lt (tgt := 129) hx hb dL_law_116 (by decide) (fun _ => k129) (fun _ => ?_)
  refine lv_iload hx hb dL_law_119 (lv_at hl 1 rfl) ?_
  refine lv_bipush (v := (8 : Int32)) hx hb dL_law_121 (by decide) ?_
  refine lv_ishr hx hb dL_law_123 ?_
  refine lv_iconst (v := (3 : Int32)) hx hb dL_law_124 (by decide) ?_
  refine lv_iand hx hb dL_law_125 ?_
  refine lv_if_ne (tgt := 154) hx hb dL_law_126 (by decide) (fun _ => ?_) (fun _ => k129)
  refine lv_aload_n hx hb dL_law_154 rfl (lv_at hl 8 rfl) ?_
  refine lv_iload hx hb dL_law_155 (lv_at hl 2 rfl) ?_
  refine lv_bipush (v := (7 : Int32)) hx hb dL_law_157 (by decide) ?_
  refine lv_icmp_ge (tgt := 166) hx hb dL_law_159 (by decide) (fun _ => ?_) (fun _ => ?_)
  · refine lv_iload hx hb dL_law_166 (lv_at hl 1 rfl) ?_
    exact ko _
  · refine lv_iconst (v := (0 : Int32)) hx hb dL_law_162 (by decide) ?_
    refine lv_goto (tgt := 168) hx hb dL_law_163 (by decide) ?_
    exact ko _
set_option maxHeartbeats 4000000 in
set_option maxRecDepth 100000 in
theorem law_loop {p9 : Program} {l : Launch} {e9 : Env} {s9 : State} {m9 : MethodId} {b9 : List Frame} {t9 : Method} {c9 : Code} {A9 : Nat → Prop} {G : va_G} {cyI cyO : ClassId} {b Ln : Nat} {xs : Nat → Int32} {Q : State → Prop} {h : Nat} {Ad At As Ac : Nat → Nat} {ag ap aw aq ar : Nat} {C : TS}  (hC : LC p9 l s9 m9 c9 A9 G cyI cyO b Ln xs)
    (kend : ∀ (H : Heap) (locs : List Loc) (ls : Array Slot) (cells slots : Nat), cells ≤ 600172 → slots ≤ 7300668 → va_S A9 s9.heap H locs → W p9 l e9 room_1 s9 m9 #[Value.ref b] b9 t9 c9 H locs cells slots Q (F0 m9 209 ls [])) :
    ∀ (n i cells slots : Nat) (H : Heap) (locs : List Loc) (ls : Array Slot), i + n = 56 → cells + 31 * n ≤ 600172 → slots + 298 * n ≤ 7300668 → LJ G cyI cyO s9 A9 b h Ad At As Ac ag ap aw aq ar C i H locs ls → W p9 l e9 room_1 s9 m9 #[Value.ref b] b9 t9 c9 H locs cells slots Q (F0 m9 84 ls []) := by
  have hx := hC.1
  have hb := hC.2.1
  intro n
  induction n with
  | zero =>
    intro i cells slots H locs ls hn hc hs hJ
    have hJ2 := hJ
    obtain ⟨L, D, T, S, V, M, g, p, w, q, r, hP, hD, hS, hl, hR, hV⟩ := hJ
    refine lv_iload hx hb dL_law_84 (lv_at hl 0 rfl) ?_
    refine lv_bipush (v := nI 56) hx hb dL_law_86 (by decide +kernel) ?_
    refine lv_icmp_ge (tgt := 209) hx hb dL_law_88 (by decide) (fun _ => ?_) (fun c1 => ?_)
    · exact kend H locs ls cells slots (by omega) (by omega) hS
    · exact absurd (nI_le (a := 56) (b := i) (by omega) (by omega)) c1
  | succ n ih =>
    intro i cells slots H locs ls hn hc hs hJ
    have hJ2 := hJ
    obtain ⟨L, D, T, S, V, M, g, p, w, q, r, hP, hD, hS, hl, hR, hV⟩ := hJ
    refine lv_iload hx hb dL_law_84 (lv_at hl 0 rfl) ?_
    refine lv_bipush (v := nI 56) hx hb dL_law_86 (by decide +kernel) ?_
    refine lv_icmp_ge (tgt := 209) hx hb dL_law_88 (by decide) (fun _ => ?_) (fun c1 => ?_)
    · exact kend H locs ls cells slots (by omega) (by omega) hS
    · exact law_turn hC (by omega) ⟨by omega, by omega⟩ hJ2 (fun H locs ls hJ => ih (i + 1) (cells + 31) (slots + 298) H locs ls (by omega) (by omega) (by omega) hJ)

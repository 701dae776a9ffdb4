/-! ===== the law's walk: its kit ===== -/
def LC (p9 : Program) (l : Launch) (s9 : State) (m9 : MethodId) (c9 : Code) (A9 : Nat → Prop) (G : va_G) (cyI cyO cyJ : ClassId) (b Ln : Nat) (xs : Nat → Int32) : Prop :=
  p9.tables.exec = Jvm.exec ∧ c9.code = cL_law ∧ c9.maxLocals = 9 ∧ s9.vm.findClass RL = some m9.cls ∧ (∀ w ∈ wsL_law, w.before #[Value.ref b] s9 = true) ∧ va_X b Ln xs s9 s9.heap ∧ b < s9.heap.size ∧ ¬ A9 b ∧ (∀ q : Nat, s9.heap.size ≤ q → A9 q) ∧
  va_K G vwCl (TY3 cyI cyO cyJ) s9 ∧ XS A9 s9 s9.heap ∧ l.stackTraces = false
abbrev lawW (cyI cyO cyJ : ClassId) (h : Nat) (Ad At As Ac Am : Nat → Nat) (ao : Nat) (L : Nat → Nat → Nat) (D T : DS) (S : SS) (C : TS) (V : HS) (M : MS) (f : Nat → Int64) : List va_W :=
  [oO h Ad At As Ac L, dyW cyI Ad D, dyW cyI At T, shW cyI As S, ctW cyI Ac C, hiW cyI cyO L V, mdW cyI Am M, oF cyJ ao f]
def LJ (G : va_G) (cyI cyO cyJ : ClassId) (s9 : State) (A9 : Nat → Prop) (b h : Nat) (Ad At As Ac Am : Nat → Nat) (ao i : Nat) (H : Heap) (locs : List Loc) (ls : Array Slot) : Prop :=
  ∃ (L : Nat → Nat → Nat) (D T : DS) (S : SS) (C : TS) (V : HS) (M : MS) (f : Nat → Int64), va_P G vwCl (cat (lawW cyI cyO cyJ h Ad At As Ac Am ao L D T S C V M f)) H ∧ va_D A9 (cat (lawW cyI cyO cyJ h Ad At As Ac Am ao L D T S C V M f)) ∧ va_S A9 s9.heap H locs ∧
    lv_has ls 9 [(4, .int (nI i)), (3, .ref ao), (2, .ref (Am 0)), (1, .ref h), (0, .ref b)] ∧ RR D V C M
theorem lg_self (x : Int64) : lg_cmp x x = 0 := by simp [lg_cmp]
section HCALL
variable {p : Program} {l : Launch} {e : Env} {R : Room} {s : State} {m : MethodId} {args : Array Value} {below : List Frame} {meth : Method} {c : Code} {H : Heap} {locs : List Loc} {cells slots : Nat} {Q : State → Prop}
variable {pc : Nat} {ls : Array Slot} {st0 rest As : List Value} {A0 : Nat → Prop} {D : va_G} {tys : List (ClassId × FieldType)} {y : MethodName} {ws Ts : List Cond} {rm : Room} {gs gi go : List va_W} {cc bytes : ByteArray} {maxL nL n index : Nat} {ret : Option FieldType} {own : String} {hh : List (Nat × Nat × Nat × Nat)}
theorem gHi {R0 : Int32} (fix : CallFix p m c cc nL s args Ts own) (hM : CH l D tys y ws rm As gi R0 go) (cw : vx_CSW R s args own index y bytes maxL ret hh ws rm 1 6 n)
    (hK : va_K D vwCl tys s) (hX : XS A0 s s.heap) (hP : va_P D vwCl (cat gs) H) (hD : va_D A0 (cat gs)) (hS : va_S A0 s.heap H locs) (hA : ∀ q, s.heap.size ≤ q → A0 q)
    (is : List Nat) (hi : is.map (fun i => gs[i]?) = gi.map some) (hn : va_nd is = true) (hlen : gi.length = go.length)
    (hAs : As.length = n) (hsize : ls.size = nL) (hst : st0 = As.reverse ++ rest) (hW : (rest.map fun v => v.category).sum ≤ 8) (hdg : decode cc pc = .ok (.invokestatic index, 3)) (hf : cells + 1 ≤ R.cells ∧ slots + 6 ≤ R.slots)
    (kk : ∀ (H1 : Heap) (locs1 : List Loc), va_P D vwCl (cat (sets gs is go)) H1 → va_D A0 (cat (sets gs is go)) → va_S A0 s.heap H1 locs1 → W p l e R s m args below meth c H1 locs1 (cells + 1) (slots + 6) Q (F0 m (pc + 3) ls (.int R0 :: rest))) :
    W p l e R s m args below meth c H locs cells slots Q (F0 m pc ls st0) := by
  have hPc := seg_P hP hn hi
  have hDc := seg_D hD hn hi
  have hFc := seg_F hD hS hA hn hi
  refine va_calli (vx_runSW (As := As) (rest := rest) fix (hM H.size) cw (gX_pre hPc hK hDc hX hS hFc) rfl hAs hsize hst (lv_room hW) hdg hf) hS (fun q _ h => hFc q h) hFc (fun r u t H1 locs1 ht hvm hw hB hz hk hS1 => ?_)
  obtain ⟨hP1, hK1, hD1⟩ := hB
  rw [ht] at hP1
  obtain ⟨hP2, hD2⟩ := seg_join hP hD hn hi hlen hk hFc hP1 hD1
  rw [hw]
  exact kk H1 locs1 hP2 hD2 hS1
end HCALL

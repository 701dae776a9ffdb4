/-! ===== the law looks at everything ===== -/

abbrev rm_L_isSo : Room := { frames := 6, cells := 27, slots := 260, locals := 134 }
set_option maxHeartbeats 4000000 in
set_option maxRecDepth 100000 in
theorem c_L_isSo (l : Launch) (G : va_G) (cyI cyO : ClassId) (h : Nat) (Ad At As Ac : Nat → Nat) (L : Nat → Nat → Nat) (ag ap aw aq : Nat) (S : SS) (T : DS) (D : DS) (M : Nat) (g p w q : Nat → Int32) (hR : RQ D M g p w q) : CA l G (TY cyI cyO) yL_isSo wsL_isSo rm_L_isSo [.ref (h), .ref (ag), .ref (ap), .ref (aw), .ref (aq)] [[(h, .inr (5, [.ref (Ad 0), .ref (At 0), .ref (As 0), .ref (Ac 0), .ref (L 6 0)]))], dyW cyI Ad D, dyW cyI At T, shW cyI As S, [(ag, .inl (cyI, 6, .inl (g)))], [(ap, .inl (cyI, 20, .inl (p)))], [(aw, .inl (cyI, 20, .inl (w)))], [(aq, .inl (cyI, 20, .inl (q)))]] ((1 : Int32)) [[(h, .inr (5, [.ref (Ad 0), .ref (At 0), .ref (As 0), .ref (Ac 0), .ref (L 6 0)]))], dyW cyI Ad D, dyW cyI At ((isM D 6 (isS D D.2.2.2.2.2.1 S) T).2), shW cyI As (shOut (isM D 6 (isS D D.2.2.2.2.2.1 S) T).1 D), [(ag, .inl (cyI, 6, .inl (g)))], [(ap, .inl (cyI, 20, .inl (p)))], [(aw, .inl (cyI, 20, .inl (w)))], [(aq, .inl (cyI, 20, .inl (q)))]] 27 260 := by
  refine wk_A (cc := cL_isSo) (maxL := 16) (ret := (some .boolean)) (mc := 27) (ms := 260) (by decide) rfl (Nat.le_of_ble_eq_true rfl) ?_
  intro p9 e9 s9 m9 b9 t9 c9 A9 ls hx hb hr hts hown hlocks hml hK hA hD hP hl hS hnm
  have hl : lv_has ls 16 [(0, .ref (h)), (1, .ref (ag)), (2, .ref (ap)), (3, .ref (aw)), (4, .ref (aq))] := hl
  obtain ⟨hM, hn, hW, hPO, hp9, hOw, hg0, hg1, hg2, hg3, hg4, hg5, hst, hq0⟩ := id hR
  have hLd := hR.lsd
  obtain ⟨pn, hLs⟩ := hLd.lsp
  refine lv_bipush (v := (20 : Int32)) hx hb dL_isSo_0 (by decide) ?_
  refine r_newa (t0 := 0) (k := 20) hx hb (hts (.arrayClass .int) (by decide +kernel)) hK rfl hP hD hS hA rfl (by omega) (by omega) ⟨Nat.le_of_ble_eq_true rfl, Nat.le_of_ble_eq_true rfl⟩ dL_isSo_2 (fun a2 H hP hD hS => ?_)
  have hP : va_P G vwCl (cat [[(h, .inr (5, [.ref (Ad 0), .ref (At 0), .ref (As 0), .ref (Ac 0), .ref (L 6 0)]))], dyW cyI Ad D, dyW cyI At T, shW cyI As S, [(ag, .inl (cyI, 6, .inl (g)))], [(ap, .inl (cyI, 20, .inl (p)))], [(aw, .inl (cyI, 20, .inl (w)))], [(aq, .inl (cyI, 20, .inl (q)))], [(a2, .inl (cyI, 20, .inl (fun _ => 0)))]]) H := hP
  have hD : va_D A9 (cat [[(h, .inr (5, [.ref (Ad 0), .ref (At 0), .ref (As 0), .ref (Ac 0), .ref (L 6 0)]))], dyW cyI Ad D, dyW cyI At T, shW cyI As S, [(ag, .inl (cyI, 6, .inl (g)))], [(ap, .inl (cyI, 20, .inl (p)))], [(aw, .inl (cyI, 20, .inl (w)))], [(aq, .inl (cyI, 20, .inl (q)))], [(a2, .inl (cyI, 20, .inl (fun _ => 0)))]]) := hD
  refine W.cs (cells' := 1) (slots' := 20) rfl rfl ?_
  refine lv_astore (lv' := [(5, .ref (a2)), (0, .ref (h)), (1, .ref (ag)), (2, .ref (ap)), (3, .ref (aw)), (4, .ref (aq))]) hx hb dL_isSo_4 hl (by decide) rfl (fun ls hl => ?_)
  refine lv_aload_n hx hb dL_isSo_6 rfl (lv_at hl 2 rfl) ?_
  refine lv_aload_n hx hb dL_isSo_7 rfl (lv_at hl 3 rfl) ?_
  refine lv_aload_n hx hb dL_isSo_8 rfl (lv_at hl 4 rfl) ?_
  refine lv_aload hx hb dL_isSo_9 (lv_at hl 0 rfl) ?_
  refine gSa (gs := [[(h, .inr (5, [.ref (Ad 0), .ref (At 0), .ref (As 0), .ref (Ac 0), .ref (L 6 0)]))], dyW cyI Ad D, dyW cyI At T, shW cyI As S, [(ag, .inl (cyI, 6, .inl (g)))], [(ap, .inl (cyI, 20, .inl (p)))], [(aw, .inl (cyI, 20, .inl (w)))], [(aq, .inl (cyI, 20, .inl (q)))], [(a2, .inl (cyI, 20, .inl (fun _ => 0)))]]) (As := [.ref (ag), .ref (ap), .ref (aw), .ref (a2)]) (rest := []) ⟨hx, hb, hml, hown, hts⟩ (c_L_share l G cyI cyO ag ap aw a2 g p w (fun _ => 0) D.2.2.2.2.2.1 M pn (hLs) (hg0) (hg5)) (va_cwS 4 hts gL_isSo_L_share rfl rfl rfl (by decide +kernel) ⟨Nat.le_of_ble_eq_true rfl, Nat.le_of_ble_eq_true rfl⟩) hK hP hD hS hA [4, 5, 6, 8] rfl rfl (rfl : (4 : Nat) = 4) rfl hl.1 rfl (Nat.le_of_ble_eq_true rfl) dL_isSo_11 ⟨Nat.le_of_ble_eq_true rfl, Nat.le_of_ble_eq_true rfl⟩ (fun H locs hP hD hS => ?_)
  have hP : va_P G vwCl (cat [[(h, .inr (5, [.ref (Ad 0), .ref (At 0), .ref (As 0), .ref (Ac 0), .ref (L 6 0)]))], dyW cyI Ad D, dyW cyI At T, shW cyI As S, [(ag, .inl (cyI, 6, .inl (g)))], [(ap, .inl (cyI, 20, .inl (p)))], [(aw, .inl (cyI, 20, .inl (w)))], [(aq, .inl (cyI, 20, .inl (q)))], [(a2, .inl (cyI, 20, .inl (lsG D.2.2.2.2.2.1 M p w (fun _ => 0))))]]) H := hP
  have hD : va_D A9 (cat [[(h, .inr (5, [.ref (Ad 0), .ref (At 0), .ref (As 0), .ref (Ac 0), .ref (L 6 0)]))], dyW cyI Ad D, dyW cyI At T, shW cyI As S, [(ag, .inl (cyI, 6, .inl (g)))], [(ap, .inl (cyI, 20, .inl (p)))], [(aw, .inl (cyI, 20, .inl (w)))], [(aq, .inl (cyI, 20, .inl (q)))], [(a2, .inl (cyI, 20, .inl (lsG D.2.2.2.2.2.1 M p w (fun _ => 0))))]]) := hD
  refine W.cs (cells' := 3) (slots' := 32) rfl rfl ?_
  refine lv_istore (lv' := [(6, .int (lsR D.2.2.2.2.2.1 M p w (fun _ => 0))), (5, .ref (a2)), (0, .ref (h)), (1, .ref (ag)), (2, .ref (ap)), (3, .ref (aw)), (4, .ref (aq))]) hx hb dL_isSo_14 hl (by decide) rfl (fun ls hl => ?_)
  refine lv_bipush (v := (20 : Int32)) hx hb dL_isSo_16 (by decide) ?_
  refine lv_istore (lv' := [(7, .int ((20 : Int32))), (6, .int (lsR D.2.2.2.2.2.1 M p w (fun _ => 0))), (5, .ref (a2)), (0, .ref (h)), (1, .ref (ag)), (2, .ref (ap)), (3, .ref (aw)), (4, .ref (aq))]) hx hb dL_isSo_18 hl (by decide) rfl (fun ls hl => ?_)
  refine lv_iconst (v := (0 : Int32)) hx hb dL_isSo_20 (by decide) ?_
  refine lv_istore (lv' := [(8, .int ((0 : Int32))), (7, .int ((20 : Int32))), (6, .int (lsR D.2.2.2.2.2.1 M p w (fun _ => 0))), (5, .ref (a2)), (0, .ref (h)), (1, .ref (ag)), (2, .ref (ap)), (3, .ref (aw)), (4, .ref (aq))]) hx hb dL_isSo_21 hl (by decide) rfl (fun ls hl => ?_)
  refine lv_iconst (v := (0 : Int32)) hx hb dL_isSo_23 (by decide) ?_
  refine lv_istore (lv' := [(9, .int ((0 : Int32))), (8, .int ((0 : Int32))), (7, .int ((20 : Int32))), (6, .int (lsR D.2.2.2.2.2.1 M p w (fun _ => 0))), (5, .ref (a2)), (0, .ref (h)), (1, .ref (ag)), (2, .ref (ap)), (3, .ref (aw)), (4, .ref (aq))]) hx hb dL_isSo_24 hl (by decide) rfl (fun ls hl => ?_)
  refine W_loop (α := Nat × SS) (I := fun a9 H locs ls => (a9.1 ≤ D.2.2.2.2.2.1) ∧ (a9.2 = isS D a9.1 S) ∧ va_P G vwCl (cat [[(h, .inr (5, [.ref (Ad 0), .ref (At 0), .ref (As 0), .ref (Ac 0), .ref (L 6 0)]))], dyW cyI Ad D, dyW cyI At T, shW cyI As a9.2, [(ag, .inl (cyI, 6, .inl (g)))], [(ap, .inl (cyI, 20, .inl (p)))], [(aw, .inl (cyI, 20, .inl (w)))], [(aq, .inl (cyI, 20, .inl (q)))], [(a2, .inl (cyI, 20, .inl (lsG D.2.2.2.2.2.1 M p w (fun _ => 0))))]]) H ∧ va_D A9 (cat [[(h, .inr (5, [.ref (Ad 0), .ref (At 0), .ref (As 0), .ref (Ac 0), .ref (L 6 0)]))], dyW cyI Ad D, dyW cyI At T, shW cyI As a9.2, [(ag, .inl (cyI, 6, .inl (g)))], [(ap, .inl (cyI, 20, .inl (p)))], [(aw, .inl (cyI, 20, .inl (w)))], [(aq, .inl (cyI, 20, .inl (q)))], [(a2, .inl (cyI, 20, .inl (lsG D.2.2.2.2.2.1 M p w (fun _ => 0))))]]) ∧ va_S A9 s9.heap H locs ∧ lv_has ls 16 [(9, .int (nI (a9.1))), (8, .int ((0 : Int32))), (7, .int ((20 : Int32))), (6, .int (lsR D.2.2.2.2.2.1 M p w (fun _ => 0))), (5, .ref (a2)), (0, .ref (h)), (1, .ref (ag)), (2, .ref (ap)), (3, .ref (aw)), (4, .ref (aq))]) (μ := fun a9 => D.2.2.2.2.2.1 - a9.1) (st := fun a9 => []) ?_ (0, S) _ _ _ ⟨(show 0 ≤ D.2.2.2.2.2.1 from Nat.zero_le _), (show S = isS D 0 S from rfl), hP, hD, hS, lv_sub hl [0, 1, 2, 3, 4, 5, 6, 7, 8, 9] rfl⟩
  intro a9 ih_26 H locs ls hI
  obtain ⟨i, S1⟩ := a9
  obtain ⟨hi9, hS19, hP9, hD9, hS9, hl9⟩ := hI
  have hi : i ≤ D.2.2.2.2.2.1 := hi9
  have hS1 : S1 = isS D i S := hS19
  have hP : va_P G vwCl (cat [[(h, .inr (5, [.ref (Ad 0), .ref (At 0), .ref (As 0), .ref (Ac 0), .ref (L 6 0)]))], dyW cyI Ad D, dyW cyI At T, shW cyI As S1, [(ag, .inl (cyI, 6, .inl (g)))], [(ap, .inl (cyI, 20, .inl (p)))], [(aw, .inl (cyI, 20, .inl (w)))], [(aq, .inl (cyI, 20, .inl (q)))], [(a2, .inl (cyI, 20, .inl (lsG D.2.2.2.2.2.1 M p w (fun _ => 0))))]]) H := hP9
  have hD : va_D A9 (cat [[(h, .inr (5, [.ref (Ad 0), .ref (At 0), .ref (As 0), .ref (Ac 0), .ref (L 6 0)]))], dyW cyI Ad D, dyW cyI At T, shW cyI As S1, [(ag, .inl (cyI, 6, .inl (g)))], [(ap, .inl (cyI, 20, .inl (p)))], [(aw, .inl (cyI, 20, .inl (w)))], [(aq, .inl (cyI, 20, .inl (q)))], [(a2, .inl (cyI, 20, .inl (lsG D.2.2.2.2.2.1 M p w (fun _ => 0))))]]) := hD9
  have hS := hS9
  have hl : lv_has ls 16 [(9, .int (nI (i))), (8, .int ((0 : Int32))), (7, .int ((20 : Int32))), (6, .int (lsR D.2.2.2.2.2.1 M p w (fun _ => 0))), (5, .ref (a2)), (0, .ref (h)), (1, .ref (ag)), (2, .ref (ap)), (3, .ref (aw)), (4, .ref (aq))] := hl9
  clear hi9 hS19 hP9 hD9 hS9 hl9
  obtain ⟨S2, eS2⟩ : ∃ z, z = shOut S1 D := ⟨_, rfl⟩
  refine lv_iload hx hb dL_isSo_26 (lv_at hl 0 rfl) ?_
  refine lv_aload_n hx hb dL_isSo_28 rfl (lv_at hl 6 rfl) ?_
  refine lv_iconst (v := (0 : Int32)) hx hb dL_isSo_29 (by decide) ?_
  refine r_ild (k := 0) (n := 6) (f := g) hx hb hK hP 36 0 rfl rfl (by omega) (by omega) rfl dL_isSo_30 ?_
  refine top_i (x' := nI (D.2.2.2.2.2.1)) (hg0) ?_
  refine lv_icmp_ge (tgt := 160) hx hb dL_isSo_31 (by decide) (fun c_31 => ?_) (fun c_31 => ?_)
  · have c_31 : (D.2.2.2.2.2.1) ≤ (i) := (nI_leI (a := D.2.2.2.2.2.1) (b := i) (by omega) (by omega)).mp c_31
    obtain rfl : D.2.2.2.2.2.1 = i := by omega
    subst hS1
    refine lv_iconst (v := (0 : Int32)) hx hb dL_isSo_160 (by decide) ?_
    refine lv_istore (lv' := [(9, .int ((0 : Int32))), (8, .int ((0 : Int32))), (7, .int ((20 : Int32))), (6, .int (lsR D.2.2.2.2.2.1 M p w (fun _ => 0))), (5, .ref (a2)), (0, .ref (h)), (1, .ref (ag)), (2, .ref (ap)), (3, .ref (aw)), (4, .ref (aq))]) hx hb dL_isSo_161 hl (by decide) rfl (fun ls hl => ?_)
    refine W.cs (cells' := 3 + 4 * 0) (slots' := 32 + 38 * 0) (by omega) (by omega) ?_
    refine W_loop2 (α := Nat × Nat × Nat × (Nat → Int32) × SS × DS) (I := fun a9 H locs ls => ((a9.2.2.2.2.1, a9.2.2.2.2.2) = isM D a9.1 (isS D D.2.2.2.2.2.1 S) T) ∧ (a9.1 ≤ 6) ∧ ((a9.2.1, a9.2.2.1) = itr a9.1 (dfStep D.2.1 D.2.2.1 D.2.2.2.2.2.1) (0, 20)) ∧ (a9.2.1 ≤ 20 ∧ a9.2.2.1 ≤ 20) ∧ va_P G vwCl (cat [[(h, .inr (5, [.ref (Ad 0), .ref (At 0), .ref (As 0), .ref (Ac 0), .ref (L 6 0)]))], dyW cyI Ad D, dyW cyI At a9.2.2.2.2.2, shW cyI As a9.2.2.2.2.1, [(ag, .inl (cyI, 6, .inl (g)))], [(ap, .inl (cyI, 20, .inl (p)))], [(aw, .inl (cyI, 20, .inl (w)))], [(aq, .inl (cyI, 20, .inl (q)))], [(a2, .inl (cyI, 20, .inl (a9.2.2.2.1)))]]) H ∧ va_D A9 (cat [[(h, .inr (5, [.ref (Ad 0), .ref (At 0), .ref (As 0), .ref (Ac 0), .ref (L 6 0)]))], dyW cyI Ad D, dyW cyI At a9.2.2.2.2.2, shW cyI As a9.2.2.2.2.1, [(ag, .inl (cyI, 6, .inl (g)))], [(ap, .inl (cyI, 20, .inl (p)))], [(aw, .inl (cyI, 20, .inl (w)))], [(aq, .inl (cyI, 20, .inl (q)))], [(a2, .inl (cyI, 20, .inl (a9.2.2.2.1)))]]) ∧ va_S A9 s9.heap H locs ∧ lv_has ls 16 [(9, .int (nI (a9.1))), (8, .int (nI (a9.2.1))), (7, .int (nI (a9.2.2.1))), (6, .int (lsR D.2.2.2.2.2.1 M p w (fun _ => 0))), (5, .ref (a2)), (0, .ref (h)), (1, .ref (ag)), (2, .ref (ap)), (3, .ref (aw)), (4, .ref (aq))]) (μ := fun a9 => 6 - a9.1) (st := fun a9 => []) (cf := fun a9 => 3 + 4 * a9.1) (sf := fun a9 => 32 + 38 * a9.1) ?_ (0, 0, 20, lsG D.2.2.2.2.2.1 M p w (fun _ => 0), isS D D.2.2.2.2.2.1 S, T) _ _ _ ⟨(show ((isS D D.2.2.2.2.2.1 S), T) = isM D 0 (isS D D.2.2.2.2.2.1 S) T from rfl), (show 0 ≤ 6 from by omega), (show (0, 20) = itr 0 (dfStep D.2.1 D.2.2.1 D.2.2.2.2.2.1) (0, 20) from rfl), (show 0 ≤ 20 ∧ 20 ≤ 20 from ⟨by omega, by omega⟩), hP, hD, hS, lv_sub hl [0, 1, 2, 3, 4, 5, 6, 7, 8, 9] rfl⟩
    intro a9 ih_163 H locs ls hI
    obtain ⟨m, mo, le, f5, S4, T4⟩ := a9
    obtain ⟨hST9, hm9, he9, hmle9, hP9, hD9, hS9, hl9⟩ := hI
    have hST : (S4, T4) = isM D m (isS D D.2.2.2.2.2.1 S) T := hST9
    have hm : m ≤ 6 := hm9
    have he : (mo, le) = itr m (dfStep D.2.1 D.2.2.1 D.2.2.2.2.2.1) (0, 20) := he9
    have hmle : mo ≤ 20 ∧ le ≤ 20 := hmle9
    have hP : va_P G vwCl (cat [[(h, .inr (5, [.ref (Ad 0), .ref (At 0), .ref (As 0), .ref (Ac 0), .ref (L 6 0)]))], dyW cyI Ad D, dyW cyI At T4, shW cyI As S4, [(ag, .inl (cyI, 6, .inl (g)))], [(ap, .inl (cyI, 20, .inl (p)))], [(aw, .inl (cyI, 20, .inl (w)))], [(aq, .inl (cyI, 20, .inl (q)))], [(a2, .inl (cyI, 20, .inl (f5)))]]) H := hP9
    have hD : va_D A9 (cat [[(h, .inr (5, [.ref (Ad 0), .ref (At 0), .ref (As 0), .ref (Ac 0), .ref (L 6 0)]))], dyW cyI Ad D, dyW cyI At T4, shW cyI As S4, [(ag, .inl (cyI, 6, .inl (g)))], [(ap, .inl (cyI, 20, .inl (p)))], [(aw, .inl (cyI, 20, .inl (w)))], [(aq, .inl (cyI, 20, .inl (q)))], [(a2, .inl (cyI, 20, .inl (f5)))]]) := hD9
    have hS := hS9
    have hl : lv_has ls 16 [(9, .int (nI (m))), (8, .int (nI (mo))), (7, .int (nI (le))), (6, .int (lsR D.2.2.2.2.2.1 M p w (fun _ => 0))), (5, .ref (a2)), (0, .ref (h)), (1, .ref (ag)), (2, .ref (ap)), (3, .ref (aw)), (4, .ref (aq))] := hl9
    clear hST9 hm9 he9 hmle9 hP9 hD9 hS9 hl9
    refine lv_iload hx hb dL_isSo_163 (lv_at hl 0 rfl) ?_
    refine lv_bipush (v := (6 : Int32)) hx hb dL_isSo_165 (by decide) ?_
    refine lv_icmp_ge (tgt := 409) hx hb dL_isSo_167 (by decide) (fun c_167 => ?_) (fun c_167 => ?_)
    · have c_167 : (6) ≤ (m) := (nI_leI (a := 6) (b := m) (by omega) (by omega)).mp c_167
      obtain rfl : 6 = m := by omega
      refine lv_aload_n hx hb dL_isSo_409 rfl (lv_at hl 5 rfl) ?_
      refine gVi (gs := [[(h, .inr (5, [.ref (Ad 0), .ref (At 0), .ref (As 0), .ref (Ac 0), .ref (L 6 0)]))], dyW cyI Ad D, dyW cyI At T4, shW cyI As S4, [(ag, .inl (cyI, 6, .inl (g)))], [(ap, .inl (cyI, 20, .inl (p)))], [(aw, .inl (cyI, 20, .inl (w)))], [(aq, .inl (cyI, 20, .inl (q)))], [(a2, .inl (cyI, 20, .inl (f5)))]]) (As := []) (rest := []) ⟨hx, hb, hml, hown, hts⟩ (c_X5_doorsteps l G cyI cyO h Ad At As Ac L D) (cwV 0 hts gL_isSo_X5_doorsteps rfl rfl rfl (by decide +kernel) ⟨Nat.le_of_ble_eq_true rfl, Nat.le_of_ble_eq_true rfl⟩) hK hP hD hS hA [0, 1] rfl rfl (rfl : (2 : Nat) = 2) 0 5 rfl rfl rfl hl.1 rfl (Nat.le_of_ble_eq_true rfl) dL_isSo_410 ⟨by show 3 + 4 * 6 ≤ 27; omega, by show 32 + 38 * 6 ≤ 260; omega⟩ (fun H locs hP hD hS => ?_)
      have hP : va_P G vwCl (cat [[(h, .inr (5, [.ref (Ad 0), .ref (At 0), .ref (As 0), .ref (Ac 0), .ref (L 6 0)]))], dyW cyI Ad D, dyW cyI At T4, shW cyI As S4, [(ag, .inl (cyI, 6, .inl (g)))], [(ap, .inl (cyI, 20, .inl (p)))], [(aw, .inl (cyI, 20, .inl (w)))], [(aq, .inl (cyI, 20, .inl (q)))], [(a2, .inl (cyI, 20, .inl (f5)))]]) H := hP
      have hD : va_D A9 (cat [[(h, .inr (5, [.ref (Ad 0), .ref (At 0), .ref (As 0), .ref (Ac 0), .ref (L 6 0)]))], dyW cyI Ad D, dyW cyI At T4, shW cyI As S4, [(ag, .inl (cyI, 6, .inl (g)))], [(ap, .inl (cyI, 20, .inl (p)))], [(aw, .inl (cyI, 20, .inl (w)))], [(aq, .inl (cyI, 20, .inl (q)))], [(a2, .inl (cyI, 20, .inl (f5)))]]) := hD
      refine lv_aload_n hx hb dL_isSo_413 rfl (lv_at hl 6 rfl) ?_
      refine lv_iconst (v := (0 : Int32)) hx hb dL_isSo_414 (by decide) ?_
      refine r_ild (k := 0) (n := 6) (f := g) hx hb hK hP 36 0 rfl rfl (by omega) (by omega) rfl dL_isSo_415 ?_
      refine top_i (x' := nI (D.2.2.2.2.2.1)) (hg0) ?_
      refine lv_icmp_ne (tgt := 472) hx hb dL_isSo_416 (by decide) (fun c_416 => ?_) (fun c_416 => ?_)
      · have c_416 : ¬ (D.2.2.2.2.2.1) = (D.2.2.2.2.2.1) := fun h9 => c_416 ((nI_eq (a := D.2.2.2.2.2.1) (b := D.2.2.2.2.2.1) (by omega) (by omega)).mpr h9)
        exact absurd rfl c_416
      · have c_416 : (D.2.2.2.2.2.1) = (D.2.2.2.2.2.1) := (nI_eq (a := D.2.2.2.2.2.1) (b := D.2.2.2.2.2.1) (by omega) (by omega)).mp c_416
        refine lv_aload_n hx hb dL_isSo_419 rfl (lv_at hl 5 rfl) ?_
        refine gVi (gs := [[(h, .inr (5, [.ref (Ad 0), .ref (At 0), .ref (As 0), .ref (Ac 0), .ref (L 6 0)]))], dyW cyI Ad D, dyW cyI At T4, shW cyI As S4, [(ag, .inl (cyI, 6, .inl (g)))], [(ap, .inl (cyI, 20, .inl (p)))], [(aw, .inl (cyI, 20, .inl (w)))], [(aq, .inl (cyI, 20, .inl (q)))], [(a2, .inl (cyI, 20, .inl (f5)))]]) (As := []) (rest := []) ⟨hx, hb, hml, hown, hts⟩ (c_X5_handover l G cyI cyO h Ad At As Ac L D) (cwV 0 hts gL_isSo_X5_handover rfl rfl rfl (by decide +kernel) ⟨Nat.le_of_ble_eq_true rfl, Nat.le_of_ble_eq_true rfl⟩) hK hP hD hS hA [0, 1] rfl rfl (rfl : (2 : Nat) = 2) 0 5 rfl rfl rfl hl.1 rfl (Nat.le_of_ble_eq_true rfl) dL_isSo_420 ⟨by show 3 + 4 * 6 ≤ 27; omega, by show 32 + 38 * 6 ≤ 260; omega⟩ (fun H locs hP hD hS => ?_)
        have hP : va_P G vwCl (cat [[(h, .inr (5, [.ref (Ad 0), .ref (At 0), .ref (As 0), .ref (Ac 0), .ref (L 6 0)]))], dyW cyI Ad D, dyW cyI At T4, shW cyI As S4, [(ag, .inl (cyI, 6, .inl (g)))], [(ap, .inl (cyI, 20, .inl (p)))], [(aw, .inl (cyI, 20, .inl (w)))], [(aq, .inl (cyI, 20, .inl (q)))], [(a2, .inl (cyI, 20, .inl (f5)))]]) H := hP
        have hD : va_D A9 (cat [[(h, .inr (5, [.ref (Ad 0), .ref (At 0), .ref (As 0), .ref (Ac 0), .ref (L 6 0)]))], dyW cyI Ad D, dyW cyI At T4, shW cyI As S4, [(ag, .inl (cyI, 6, .inl (g)))], [(ap, .inl (cyI, 20, .inl (p)))], [(aw, .inl (cyI, 20, .inl (w)))], [(aq, .inl (cyI, 20, .inl (q)))], [(a2, .inl (cyI, 20, .inl (f5)))]]) := hD
        refine lv_aload_n hx hb dL_isSo_423 rfl (lv_at hl 6 rfl) ?_
        refine lv_iconst (v := (1 : Int32)) hx hb dL_isSo_424 (by decide) ?_
        refine r_ild (k := 1) (n := 6) (f := g) hx hb hK hP 36 0 rfl rfl (by omega) (by omega) rfl dL_isSo_425 ?_
        refine top_i (x' := D.2.2.2.2.2.2.1) (hg1) ?_
        refine lv_icmp_ne (tgt := 472) hx hb dL_isSo_426 (by decide) (fun c_426 => ?_) (fun c_426 => ?_)
        · exact absurd rfl c_426
        · refine lv_aload_n hx hb dL_isSo_429 rfl (lv_at hl 5 rfl) ?_
          refine gVi (gs := [[(h, .inr (5, [.ref (Ad 0), .ref (At 0), .ref (As 0), .ref (Ac 0), .ref (L 6 0)]))], dyW cyI Ad D, dyW cyI At T4, shW cyI As S4, [(ag, .inl (cyI, 6, .inl (g)))], [(ap, .inl (cyI, 20, .inl (p)))], [(aw, .inl (cyI, 20, .inl (w)))], [(aq, .inl (cyI, 20, .inl (q)))], [(a2, .inl (cyI, 20, .inl (f5)))]]) (As := []) (rest := []) ⟨hx, hb, hml, hown, hts⟩ (c_X5_changed l G cyI cyO h Ad At As Ac L D) (cwV 0 hts gL_isSo_X5_changed rfl rfl rfl (by decide +kernel) ⟨Nat.le_of_ble_eq_true rfl, Nat.le_of_ble_eq_true rfl⟩) hK hP hD hS hA [0, 1] rfl rfl (rfl : (2 : Nat) = 2) 0 5 rfl rfl rfl hl.1 rfl (Nat.le_of_ble_eq_true rfl) dL_isSo_430 ⟨by show 3 + 4 * 6 ≤ 27; omega, by show 32 + 38 * 6 ≤ 260; omega⟩ (fun H locs hP hD hS => ?_)
          have hP : va_P G vwCl (cat [[(h, .inr (5, [.ref (Ad 0), .ref (At 0), .ref (As 0), .ref (Ac 0), .ref (L 6 0)]))], dyW cyI Ad D, dyW cyI At T4, shW cyI As S4, [(ag, .inl (cyI, 6, .inl (g)))], [(ap, .inl (cyI, 20, .inl (p)))], [(aw, .inl (cyI, 20, .inl (w)))], [(aq, .inl (cyI, 20, .inl (q)))], [(a2, .inl (cyI, 20, .inl (f5)))]]) H := hP
          have hD : va_D A9 (cat [[(h, .inr (5, [.ref (Ad 0), .ref (At 0), .ref (As 0), .ref (Ac 0), .ref (L 6 0)]))], dyW cyI Ad D, dyW cyI At T4, shW cyI As S4, [(ag, .inl (cyI, 6, .inl (g)))], [(ap, .inl (cyI, 20, .inl (p)))], [(aw, .inl (cyI, 20, .inl (w)))], [(aq, .inl (cyI, 20, .inl (q)))], [(a2, .inl (cyI, 20, .inl (f5)))]]) := hD
          refine lv_aload_n hx hb dL_isSo_433 rfl (lv_at hl 6 rfl) ?_
          refine lv_iconst (v := (2 : Int32)) hx hb dL_isSo_434 (by decide) ?_
          refine r_ild (k := 2) (n := 6) (f := g) hx hb hK hP 36 0 rfl rfl (by omega) (by omega) rfl dL_isSo_435 ?_
          refine top_i (x' := D.2.2.2.2.2.2.2.1) (hg2) ?_
          refine lv_icmp_ne (tgt := 472) hx hb dL_isSo_436 (by decide) (fun c_436 => ?_) (fun c_436 => ?_)
          · exact absurd rfl c_436
          · refine lv_aload_n hx hb dL_isSo_439 rfl (lv_at hl 5 rfl) ?_
            refine gVi (gs := [[(h, .inr (5, [.ref (Ad 0), .ref (At 0), .ref (As 0), .ref (Ac 0), .ref (L 6 0)]))], dyW cyI Ad D, dyW cyI At T4, shW cyI As S4, [(ag, .inl (cyI, 6, .inl (g)))], [(ap, .inl (cyI, 20, .inl (p)))], [(aw, .inl (cyI, 20, .inl (w)))], [(aq, .inl (cyI, 20, .inl (q)))], [(a2, .inl (cyI, 20, .inl (f5)))]]) (As := []) (rest := []) ⟨hx, hb, hml, hown, hts⟩ (c_X5_delivered l G cyI cyO h Ad At As Ac L D) (cwV 0 hts gL_isSo_X5_delivered rfl rfl rfl (by decide +kernel) ⟨Nat.le_of_ble_eq_true rfl, Nat.le_of_ble_eq_true rfl⟩) hK hP hD hS hA [0, 1] rfl rfl (rfl : (2 : Nat) = 2) 0 5 rfl rfl rfl hl.1 rfl (Nat.le_of_ble_eq_true rfl) dL_isSo_440 ⟨by show 3 + 4 * 6 ≤ 27; omega, by show 32 + 38 * 6 ≤ 260; omega⟩ (fun H locs hP hD hS => ?_)
            have hP : va_P G vwCl (cat [[(h, .inr (5, [.ref (Ad 0), .ref (At 0), .ref (As 0), .ref (Ac 0), .ref (L 6 0)]))], dyW cyI Ad D, dyW cyI At T4, shW cyI As S4, [(ag, .inl (cyI, 6, .inl (g)))], [(ap, .inl (cyI, 20, .inl (p)))], [(aw, .inl (cyI, 20, .inl (w)))], [(aq, .inl (cyI, 20, .inl (q)))], [(a2, .inl (cyI, 20, .inl (f5)))]]) H := hP
            have hD : va_D A9 (cat [[(h, .inr (5, [.ref (Ad 0), .ref (At 0), .ref (As 0), .ref (Ac 0), .ref (L 6 0)]))], dyW cyI Ad D, dyW cyI At T4, shW cyI As S4, [(ag, .inl (cyI, 6, .inl (g)))], [(ap, .inl (cyI, 20, .inl (p)))], [(aw, .inl (cyI, 20, .inl (w)))], [(aq, .inl (cyI, 20, .inl (q)))], [(a2, .inl (cyI, 20, .inl (f5)))]]) := hD
            refine lv_aload_n hx hb dL_isSo_443 rfl (lv_at hl 6 rfl) ?_
            refine lv_iconst (v := (3 : Int32)) hx hb dL_isSo_444 (by decide) ?_
            refine r_ild (k := 3) (n := 6) (f := g) hx hb hK hP 36 0 rfl rfl (by omega) (by omega) rfl dL_isSo_445 ?_
            refine top_i (x' := D.2.2.2.2.2.2.2.2.1) (hg3) ?_
            refine lv_icmp_ne (tgt := 472) hx hb dL_isSo_446 (by decide) (fun c_446 => ?_) (fun c_446 => ?_)
            · exact absurd rfl c_446
            · refine lv_aload_n hx hb dL_isSo_449 rfl (lv_at hl 5 rfl) ?_
              refine gVi (gs := [[(h, .inr (5, [.ref (Ad 0), .ref (At 0), .ref (As 0), .ref (Ac 0), .ref (L 6 0)]))], dyW cyI Ad D, dyW cyI At T4, shW cyI As S4, [(ag, .inl (cyI, 6, .inl (g)))], [(ap, .inl (cyI, 20, .inl (p)))], [(aw, .inl (cyI, 20, .inl (w)))], [(aq, .inl (cyI, 20, .inl (q)))], [(a2, .inl (cyI, 20, .inl (f5)))]]) (As := []) (rest := []) ⟨hx, hb, hml, hown, hts⟩ (c_X5_misses l G cyI cyO h Ad At As Ac L D) (cwV 0 hts gL_isSo_X5_misses rfl rfl rfl (by decide +kernel) ⟨Nat.le_of_ble_eq_true rfl, Nat.le_of_ble_eq_true rfl⟩) hK hP hD hS hA [0, 1] rfl rfl (rfl : (2 : Nat) = 2) 0 5 rfl rfl rfl hl.1 rfl (Nat.le_of_ble_eq_true rfl) dL_isSo_450 ⟨by show 3 + 4 * 6 ≤ 27; omega, by show 32 + 38 * 6 ≤ 260; omega⟩ (fun H locs hP hD hS => ?_)
              have hP : va_P G vwCl (cat [[(h, .inr (5, [.ref (Ad 0), .ref (At 0), .ref (As 0), .ref (Ac 0), .ref (L 6 0)]))], dyW cyI Ad D, dyW cyI At T4, shW cyI As S4, [(ag, .inl (cyI, 6, .inl (g)))], [(ap, .inl (cyI, 20, .inl (p)))], [(aw, .inl (cyI, 20, .inl (w)))], [(aq, .inl (cyI, 20, .inl (q)))], [(a2, .inl (cyI, 20, .inl (f5)))]]) H := hP
              have hD : va_D A9 (cat [[(h, .inr (5, [.ref (Ad 0), .ref (At 0), .ref (As 0), .ref (Ac 0), .ref (L 6 0)]))], dyW cyI Ad D, dyW cyI At T4, shW cyI As S4, [(ag, .inl (cyI, 6, .inl (g)))], [(ap, .inl (cyI, 20, .inl (p)))], [(aw, .inl (cyI, 20, .inl (w)))], [(aq, .inl (cyI, 20, .inl (q)))], [(a2, .inl (cyI, 20, .inl (f5)))]]) := hD
              refine lv_aload_n hx hb dL_isSo_453 rfl (lv_at hl 6 rfl) ?_
              refine lv_iconst (v := (4 : Int32)) hx hb dL_isSo_454 (by decide) ?_
              refine r_ild (k := 4) (n := 6) (f := g) hx hb hK hP 36 0 rfl rfl (by omega) (by omega) rfl dL_isSo_455 ?_
              refine top_i (x' := D.2.2.2.2.2.2.2.2.2) (hg4) ?_
              refine lv_icmp_ne (tgt := 472) hx hb dL_isSo_456 (by decide) (fun c_456 => ?_) (fun c_456 => ?_)
              · exact absurd rfl c_456
              · refine lv_aload_n hx hb dL_isSo_459 rfl (lv_at hl 5 rfl) ?_
                refine gVi (gs := [[(h, .inr (5, [.ref (Ad 0), .ref (At 0), .ref (As 0), .ref (Ac 0), .ref (L 6 0)]))], dyW cyI Ad D, dyW cyI At T4, shW cyI As S4, [(ag, .inl (cyI, 6, .inl (g)))], [(ap, .inl (cyI, 20, .inl (p)))], [(aw, .inl (cyI, 20, .inl (w)))], [(aq, .inl (cyI, 20, .inl (q)))], [(a2, .inl (cyI, 20, .inl (f5)))]]) (As := []) (rest := []) ⟨hx, hb, hml, hown, hts⟩ (c_X5_changesToCome l G cyI cyO h Ad At As Ac L S4 D (by omega)) (cwV 0 hts gL_isSo_X5_changesToCome rfl rfl rfl (by decide +kernel) ⟨Nat.le_of_ble_eq_true rfl, Nat.le_of_ble_eq_true rfl⟩) hK hP hD hS hA [0, 3, 1] rfl rfl (rfl : (3 : Nat) = 3) 0 5 rfl rfl rfl hl.1 rfl (Nat.le_of_ble_eq_true rfl) dL_isSo_460 ⟨by show 3 + 4 * 6 ≤ 27; omega, by show 32 + 38 * 6 ≤ 260; omega⟩ (fun H locs hP hD hS => ?_)
                have hP : va_P G vwCl (cat [[(h, .inr (5, [.ref (Ad 0), .ref (At 0), .ref (As 0), .ref (Ac 0), .ref (L 6 0)]))], dyW cyI Ad D, dyW cyI At T4, shW cyI As (shOut S4 D), [(ag, .inl (cyI, 6, .inl (g)))], [(ap, .inl (cyI, 20, .inl (p)))], [(aw, .inl (cyI, 20, .inl (w)))], [(aq, .inl (cyI, 20, .inl (q)))], [(a2, .inl (cyI, 20, .inl (f5)))]]) H := hP
                have hD : va_D A9 (cat [[(h, .inr (5, [.ref (Ad 0), .ref (At 0), .ref (As 0), .ref (Ac 0), .ref (L 6 0)]))], dyW cyI Ad D, dyW cyI At T4, shW cyI As (shOut S4 D), [(ag, .inl (cyI, 6, .inl (g)))], [(ap, .inl (cyI, 20, .inl (p)))], [(aw, .inl (cyI, 20, .inl (w)))], [(aq, .inl (cyI, 20, .inl (q)))], [(a2, .inl (cyI, 20, .inl (f5)))]]) := hD
                refine lv_iload hx hb dL_isSo_463 (lv_at hl 3 rfl) ?_
                refine lv_icmp_ne (tgt := 472) hx hb dL_isSo_465 (by decide) (fun c_465 => ?_) (fun c_465 => ?_)
                · exact absurd (ls_res hLd) c_465
                · refine lv_iconst (v := (1 : Int32)) hx hb dL_isSo_468 (by decide) ?_
                  refine lv_goto (tgt := 473) hx hb dL_isSo_469 (by decide) ?_
                  refine lv_istore (lv' := [(9, .int ((1 : Int32))), (8, .int (nI (mo))), (7, .int (nI (le))), (6, .int (lsR D.2.2.2.2.2.1 M p w (fun _ => 0))), (5, .ref (a2)), (0, .ref (h)), (1, .ref (ag)), (2, .ref (ap)), (3, .ref (aw)), (4, .ref (aq))]) hx hb dL_isSo_473 hl (by decide) rfl (fun ls hl => ?_)
                  refine lv_iload hx hb dL_isSo_475 (lv_at hl 0 rfl) ?_
                  refine lv_if_eq (tgt := 519) hx hb dL_isSo_477 (by decide) (fun c_477 => ?_) (fun c_477 => ?_)
                  · exact absurd c_477 (by decide)
                  · refine lv_aload_n hx hb dL_isSo_480 rfl (lv_at hl 5 rfl) ?_
                    refine gVd (gs := [[(h, .inr (5, [.ref (Ad 0), .ref (At 0), .ref (As 0), .ref (Ac 0), .ref (L 6 0)]))], dyW cyI Ad D, dyW cyI At T4, shW cyI As (shOut S4 D), [(ag, .inl (cyI, 6, .inl (g)))], [(ap, .inl (cyI, 20, .inl (p)))], [(aw, .inl (cyI, 20, .inl (w)))], [(aq, .inl (cyI, 20, .inl (q)))], [(a2, .inl (cyI, 20, .inl (f5)))]]) (As := []) (rest := []) ⟨hx, hb, hml, hown, hts⟩ (c_X5_unevenness l G cyI cyO h Ad At As Ac L D (by omega)) (cwV 0 hts gL_isSo_X5_unevenness rfl rfl rfl (by decide +kernel) ⟨Nat.le_of_ble_eq_true rfl, Nat.le_of_ble_eq_true rfl⟩) hK hP hD hS hA [0, 1] rfl rfl (rfl : (2 : Nat) = 2) 0 5 rfl rfl rfl hl.1 rfl (Nat.le_of_ble_eq_true rfl) dL_isSo_481 ⟨by show 3 + 4 * 6 ≤ 27; omega, by show 32 + 38 * 6 ≤ 260; omega⟩ (fun H locs hP hD hS => ?_)
                    have hP : va_P G vwCl (cat [[(h, .inr (5, [.ref (Ad 0), .ref (At 0), .ref (As 0), .ref (Ac 0), .ref (L 6 0)]))], dyW cyI Ad D, dyW cyI At T4, shW cyI As (shOut S4 D), [(ag, .inl (cyI, 6, .inl (g)))], [(ap, .inl (cyI, 20, .inl (p)))], [(aw, .inl (cyI, 20, .inl (w)))], [(aq, .inl (cyI, 20, .inl (q)))], [(a2, .inl (cyI, 20, .inl (f5)))]]) H := hP
                    have hD : va_D A9 (cat [[(h, .inr (5, [.ref (Ad 0), .ref (At 0), .ref (As 0), .ref (Ac 0), .ref (L 6 0)]))], dyW cyI Ad D, dyW cyI At T4, shW cyI As (shOut S4 D), [(ag, .inl (cyI, 6, .inl (g)))], [(ap, .inl (cyI, 20, .inl (p)))], [(aw, .inl (cyI, 20, .inl (w)))], [(aq, .inl (cyI, 20, .inl (q)))], [(a2, .inl (cyI, 20, .inl (f5)))]]) := hD
                    refine W_join (pc2 := 511) (v := .double (uneX D)) (l2 := ls) (rest := [.double (uneX D)]) ?_ (fun j_511 => ?_)
                    · refine lv_dcmp hx hb dL_isSo_511 ?_
                      refine lv_if_ne (tgt := 519) hx hb dL_isSo_512 (by decide) (fun c_512 => ?_) (fun c_512 => ?_)
                      · exact absurd (une_c hR) c_512
                      · refine lv_iconst (v := (1 : Int32)) hx hb dL_isSo_515 (by decide) ?_
                        refine lv_goto (tgt := 520) hx hb dL_isSo_516 (by decide) ?_
                        have hP := seg_P (gi := [[(h, .inr (5, [.ref (Ad 0), .ref (At 0), .ref (As 0), .ref (Ac 0), .ref (L 6 0)]))], dyW cyI Ad D, dyW cyI At T4, shW cyI As (shOut S4 D), [(ag, .inl (cyI, 6, .inl (g)))], [(ap, .inl (cyI, 20, .inl (p)))], [(aw, .inl (cyI, 20, .inl (w)))], [(aq, .inl (cyI, 20, .inl (q)))]]) hP (is := [0, 1, 2, 3, 4, 5, 6, 7]) rfl rfl
                        have hD := seg_D (gi := [[(h, .inr (5, [.ref (Ad 0), .ref (At 0), .ref (As 0), .ref (Ac 0), .ref (L 6 0)]))], dyW cyI Ad D, dyW cyI At T4, shW cyI As (shOut S4 D), [(ag, .inl (cyI, 6, .inl (g)))], [(ap, .inl (cyI, 20, .inl (p)))], [(aw, .inl (cyI, 20, .inl (w)))], [(aq, .inl (cyI, 20, .inl (q)))]]) hD (is := [0, 1, 2, 3, 4, 5, 6, 7]) rfl rfl
                        have hP : va_P G vwCl (cat [[(h, .inr (5, [.ref (Ad 0), .ref (At 0), .ref (As 0), .ref (Ac 0), .ref (L 6 0)]))], dyW cyI Ad D, dyW cyI At T4, shW cyI As (shOut S4 D), [(ag, .inl (cyI, 6, .inl (g)))], [(ap, .inl (cyI, 20, .inl (p)))], [(aw, .inl (cyI, 20, .inl (w)))], [(aq, .inl (cyI, 20, .inl (q)))]]) H := hP
                        have hD : va_D A9 (cat [[(h, .inr (5, [.ref (Ad 0), .ref (At 0), .ref (As 0), .ref (Ac 0), .ref (L 6 0)]))], dyW cyI Ad D, dyW cyI At T4, shW cyI As (shOut S4 D), [(ag, .inl (cyI, 6, .inl (g)))], [(ap, .inl (cyI, 20, .inl (p)))], [(aw, .inl (cyI, 20, .inl (w)))], [(aq, .inl (cyI, 20, .inl (q)))]]) := hD
                        refine W.widen (k := 27) (n := 260) (by omega) (by omega) ?_
                        have hgo : cat [[(h, .inr (5, [.ref (Ad 0), .ref (At 0), .ref (As 0), .ref (Ac 0), .ref (L 6 0)]))], dyW cyI Ad D, dyW cyI At T4, shW cyI As (shOut S4 D), [(ag, .inl (cyI, 6, .inl (g)))], [(ap, .inl (cyI, 20, .inl (p)))], [(aw, .inl (cyI, 20, .inl (w)))], [(aq, .inl (cyI, 20, .inl (q)))]] = cat [[(h, .inr (5, [.ref (Ad 0), .ref (At 0), .ref (As 0), .ref (Ac 0), .ref (L 6 0)]))], dyW cyI Ad D, dyW cyI At ((isM D 6 (isS D D.2.2.2.2.2.1 S) T).2), shW cyI As (shOut (isM D 6 (isS D D.2.2.2.2.2.1 S) T).1 D), [(ag, .inl (cyI, 6, .inl (g)))], [(ap, .inl (cyI, 20, .inl (p)))], [(aw, .inl (cyI, 20, .inl (w)))], [(aq, .inl (cyI, 20, .inl (q)))]] := by rw [← hST]
                        rw [hgo] at hP hD
                        have hP : va_P G vwCl (cat [[(h, .inr (5, [.ref (Ad 0), .ref (At 0), .ref (As 0), .ref (Ac 0), .ref (L 6 0)]))], dyW cyI Ad D, dyW cyI At ((isM D 6 (isS D D.2.2.2.2.2.1 S) T).2), shW cyI As (shOut (isM D 6 (isS D D.2.2.2.2.2.1 S) T).1 D), [(ag, .inl (cyI, 6, .inl (g)))], [(ap, .inl (cyI, 20, .inl (p)))], [(aw, .inl (cyI, 20, .inl (w)))], [(aq, .inl (cyI, 20, .inl (q)))]]) H := hP
                        have hD : va_D A9 (cat [[(h, .inr (5, [.ref (Ad 0), .ref (At 0), .ref (As 0), .ref (Ac 0), .ref (L 6 0)]))], dyW cyI Ad D, dyW cyI At ((isM D 6 (isS D D.2.2.2.2.2.1 S) T).2), shW cyI As (shOut (isM D 6 (isS D D.2.2.2.2.2.1 S) T).1 D), [(ag, .inl (cyI, 6, .inl (g)))], [(ap, .inl (cyI, 20, .inl (p)))], [(aw, .inl (cyI, 20, .inl (w)))], [(aq, .inl (cyI, 20, .inl (q)))]]) := hD
                        exact end_z hx hb hr hlocks hK hP hD hS (rfl) (Or.inr rfl) dL_isSo_520
                    · refine lv_aload_n hx hb dL_isSo_484 rfl (lv_at hl 6 rfl) ?_
                      refine lv_iconst (v := (5 : Int32)) hx hb dL_isSo_485 (by decide) ?_
                      refine r_ild (k := 5) (n := 6) (f := g) hx hb hK hP 36 0 rfl rfl (by omega) (by omega) rfl dL_isSo_486 ?_
                      refine top_i (x' := nI (M)) (hg5) ?_
                      refine lv_if_eq (tgt := 496) hx hb dL_isSo_487 (by decide) (fun c_487 => ?_) (fun c_487 => ?_)
                      · have c_487 : (M) = (0) := (nI_eq (a := M) (b := 0) (by omega) (by omega)).mp c_487
                        refine lv_dconst0 hx hb dL_isSo_496 ?_
                        refine lv_goto (tgt := 511) hx hb dL_isSo_497 (by decide) ?_
                        refine top_d (x' := uneX D) (by first | exact une_0 hR (Or.inl c_487) | exact une_0 hR (Or.inr c_493) | exact une_1 hR he c_493) ?_
                        exact j_511
                      · have c_487 : ¬ (M) = (0) := fun h9 => c_487 ((nI_eq (a := M) (b := 0) (by omega) (by omega)).mpr h9)
                        refine lv_aload_n hx hb dL_isSo_490 rfl (lv_at hl 6 rfl) ?_
                        refine lv_iconst (v := (0 : Int32)) hx hb dL_isSo_491 (by decide) ?_
                        refine r_ild (k := 0) (n := 6) (f := g) hx hb hK hP 36 0 rfl rfl (by omega) (by omega) rfl dL_isSo_492 ?_
                        refine top_i (x' := nI (D.2.2.2.2.2.1)) (hg0) ?_
                        refine lv_if_ne (tgt := 500) hx hb dL_isSo_493 (by decide) (fun c_493 => ?_) (fun c_493 => ?_)
                        · have c_493 : ¬ (D.2.2.2.2.2.1) = (0) := fun h9 => c_493 ((nI_eq (a := D.2.2.2.2.2.1) (b := 0) (by omega) (by omega)).mpr h9)
                          have hle := df_le2 hR c_487 he
                          refine lv_iload hx hb dL_isSo_500 (lv_at hl 1 rfl) ?_
                          refine lv_iload hx hb dL_isSo_502 (lv_at hl 2 rfl) ?_
                          refine lv_isub hx hb dL_isSo_504 ?_
                          refine top_i (x' := nI (mo - le)) (pk_sub hle) ?_
                          refine lv_i2d hx hb dL_isSo_505 ?_
                          refine lv_aload_n hx hb dL_isSo_506 rfl (lv_at hl 6 rfl) ?_
                          refine lv_iconst (v := (0 : Int32)) hx hb dL_isSo_507 (by decide) ?_
                          refine r_ild (k := 0) (n := 6) (f := g) hx hb hK hP 36 0 rfl rfl (by omega) (by omega) rfl dL_isSo_508 ?_
                          refine top_i (x' := nI (D.2.2.2.2.2.1)) (hg0) ?_
                          refine lv_i2d hx hb dL_isSo_509 ?_
                          refine lv_ddiv hx hb dL_isSo_510 (div_ok (by omega) (by omega) (by omega)) ?_
                          refine top_d (x' := uneX D) (by first | exact une_0 hR (Or.inl c_487) | exact une_0 hR (Or.inr c_493) | exact une_1 hR he c_493) ?_
                          exact j_511
                        · have c_493 : (D.2.2.2.2.2.1) = (0) := (nI_eq (a := D.2.2.2.2.2.1) (b := 0) (by omega) (by omega)).mp c_493
                          refine lv_dconst0 hx hb dL_isSo_496 ?_
                          refine lv_goto (tgt := 511) hx hb dL_isSo_497 (by decide) ?_
                          refine top_d (x' := uneX D) (by first | exact une_0 hR (Or.inl c_487) | exact une_0 hR (Or.inr c_493) | exact une_1 hR he c_493) ?_
                          exact j_511
    · have c_167 : ¬ (6) ≤ (m) := fun h9 => c_167 ((nI_leI (a := 6) (b := m) (by omega) (by omega)).mpr h9)
      have hbt := bt_le M m
      refine lv_iconst (v := (0 : Int32)) hx hb dL_isSo_170 (by decide) ?_
      refine lv_istore (lv' := [(10, .int ((0 : Int32))), (9, .int (nI (m))), (8, .int (nI (mo))), (7, .int (nI (le))), (6, .int (lsR D.2.2.2.2.2.1 M p w (fun _ => 0))), (5, .ref (a2)), (0, .ref (h)), (1, .ref (ag)), (2, .ref (ap)), (3, .ref (aw)), (4, .ref (aq))]) hx hb dL_isSo_171 hl (by decide) rfl (fun ls hl => ?_)
      refine lv_iconst (v := (0 : Int32)) hx hb dL_isSo_173 (by decide) ?_
      refine lv_istore (lv' := [(11, .int ((0 : Int32))), (10, .int ((0 : Int32))), (9, .int (nI (m))), (8, .int (nI (mo))), (7, .int (nI (le))), (6, .int (lsR D.2.2.2.2.2.1 M p w (fun _ => 0))), (5, .ref (a2)), (0, .ref (h)), (1, .ref (ag)), (2, .ref (ap)), (3, .ref (aw)), (4, .ref (aq))]) hx hb dL_isSo_174 hl (by decide) rfl (fun ls hl => ?_)
      refine W_loop (α := Nat × Int32) (I := fun a9 H locs ls => (a9.1 ≤ D.2.2.2.2.2.1) ∧ (a9.2 = itr a9.1 (ldStep p w (nI m)) 0) ∧ va_P G vwCl (cat [[(h, .inr (5, [.ref (Ad 0), .ref (At 0), .ref (As 0), .ref (Ac 0), .ref (L 6 0)]))], dyW cyI Ad D, dyW cyI At T4, shW cyI As S4, [(ag, .inl (cyI, 6, .inl (g)))], [(ap, .inl (cyI, 20, .inl (p)))], [(aw, .inl (cyI, 20, .inl (w)))], [(aq, .inl (cyI, 20, .inl (q)))], [(a2, .inl (cyI, 20, .inl (f5)))]]) H ∧ va_D A9 (cat [[(h, .inr (5, [.ref (Ad 0), .ref (At 0), .ref (As 0), .ref (Ac 0), .ref (L 6 0)]))], dyW cyI Ad D, dyW cyI At T4, shW cyI As S4, [(ag, .inl (cyI, 6, .inl (g)))], [(ap, .inl (cyI, 20, .inl (p)))], [(aw, .inl (cyI, 20, .inl (w)))], [(aq, .inl (cyI, 20, .inl (q)))], [(a2, .inl (cyI, 20, .inl (f5)))]]) ∧ va_S A9 s9.heap H locs ∧ lv_has ls 16 [(11, .int (nI (a9.1))), (10, .int (a9.2)), (9, .int (nI (m))), (8, .int (nI (mo))), (7, .int (nI (le))), (6, .int (lsR D.2.2.2.2.2.1 M p w (fun _ => 0))), (5, .ref (a2)), (0, .ref (h)), (1, .ref (ag)), (2, .ref (ap)), (3, .ref (aw)), (4, .ref (aq))]) (μ := fun a9 => D.2.2.2.2.2.1 - a9.1) (st := fun a9 => []) ?_ (0, 0) _ _ _ ⟨(show 0 ≤ D.2.2.2.2.2.1 from Nat.zero_le _), (show 0 = itr 0 (ldStep p w (nI m)) 0 from rfl), hP, hD, hS, lv_sub hl [0, 1, 2, 3, 4, 5, 6, 7, 8, 9, 10, 11] rfl⟩
      intro a9 ih_176 H locs ls hI
      obtain ⟨i, x⟩ := a9
      obtain ⟨hi9, hx99, hP9, hD9, hS9, hl9⟩ := hI
      have hi : i ≤ D.2.2.2.2.2.1 := hi9
      have hx9 : x = itr i (ldStep p w (nI m)) 0 := hx99
      have hP : va_P G vwCl (cat [[(h, .inr (5, [.ref (Ad 0), .ref (At 0), .ref (As 0), .ref (Ac 0), .ref (L 6 0)]))], dyW cyI Ad D, dyW cyI At T4, shW cyI As S4, [(ag, .inl (cyI, 6, .inl (g)))], [(ap, .inl (cyI, 20, .inl (p)))], [(aw, .inl (cyI, 20, .inl (w)))], [(aq, .inl (cyI, 20, .inl (q)))], [(a2, .inl (cyI, 20, .inl (f5)))]]) H := hP9
      have hD : va_D A9 (cat [[(h, .inr (5, [.ref (Ad 0), .ref (At 0), .ref (As 0), .ref (Ac 0), .ref (L 6 0)]))], dyW cyI Ad D, dyW cyI At T4, shW cyI As S4, [(ag, .inl (cyI, 6, .inl (g)))], [(ap, .inl (cyI, 20, .inl (p)))], [(aw, .inl (cyI, 20, .inl (w)))], [(aq, .inl (cyI, 20, .inl (q)))], [(a2, .inl (cyI, 20, .inl (f5)))]]) := hD9
      have hS := hS9
      have hl : lv_has ls 16 [(11, .int (nI (i))), (10, .int (x)), (9, .int (nI (m))), (8, .int (nI (mo))), (7, .int (nI (le))), (6, .int (lsR D.2.2.2.2.2.1 M p w (fun _ => 0))), (5, .ref (a2)), (0, .ref (h)), (1, .ref (ag)), (2, .ref (ap)), (3, .ref (aw)), (4, .ref (aq))] := hl9
      clear hi9 hx99 hP9 hD9 hS9 hl9
      refine lv_iload hx hb dL_isSo_176 (lv_at hl 0 rfl) ?_
      refine lv_aload_n hx hb dL_isSo_178 rfl (lv_at hl 8 rfl) ?_
      refine lv_iconst (v := (0 : Int32)) hx hb dL_isSo_179 (by decide) ?_
      refine r_ild (k := 0) (n := 6) (f := g) hx hb hK hP 36 0 rfl rfl (by omega) (by omega) rfl dL_isSo_180 ?_
      refine top_i (x' := nI (D.2.2.2.2.2.1)) (hg0) ?_
      refine lv_icmp_ge (tgt := 212) hx hb dL_isSo_181 (by decide) (fun c_181 => ?_) (fun c_181 => ?_)
      · have c_181 : (D.2.2.2.2.2.1) ≤ (i) := (nI_leI (a := D.2.2.2.2.2.1) (b := i) (by omega) (by omega)).mp c_181
        obtain rfl : D.2.2.2.2.2.1 = i := by omega
        have ex : x = rLd D.1 D.2.1 D.2.2.2.2.2.1 (nI m) := hx9.trans (rLd_congr (fun d hd => (hPO d hd).2) fun d hd => (hPO d hd).1)
        rw [ex] at hl
        have hl : lv_has ls 16 [(11, .int (nI (D.2.2.2.2.2.1))), (10, .int (rLd D.1 D.2.1 D.2.2.2.2.2.1 (nI m))), (9, .int (nI (m))), (8, .int (nI (mo))), (7, .int (nI (le))), (6, .int (lsR D.2.2.2.2.2.1 M p w (fun _ => 0))), (5, .ref (a2)), (0, .ref (h)), (1, .ref (ag)), (2, .ref (ap)), (3, .ref (aw)), (4, .ref (aq))] := hl
        refine W_join (pc2 := 229) (v := .int (nI (bt M m))) (l2 := ls) (rest := []) ?_ (fun j_229 => ?_)
        · refine lv_istore (lv' := [(11, .int (nI (bt M m))), (10, .int (rLd D.1 D.2.1 D.2.2.2.2.2.1 (nI m))), (9, .int (nI (m))), (8, .int (nI (mo))), (7, .int (nI (le))), (6, .int (lsR D.2.2.2.2.2.1 M p w (fun _ => 0))), (5, .ref (a2)), (0, .ref (h)), (1, .ref (ag)), (2, .ref (ap)), (3, .ref (aw)), (4, .ref (aq))]) hx hb dL_isSo_229 hl (by decide) rfl (fun ls hl => ?_)
          refine lv_aload_n hx hb dL_isSo_231 rfl (lv_at hl 8 rfl) ?_
          refine lv_aload_n hx hb dL_isSo_232 rfl (lv_at hl 10 rfl) ?_
          refine lv_iload hx hb dL_isSo_233 (lv_at hl 2 rfl) ?_
          refine gSi (gs := [[(h, .inr (5, [.ref (Ad 0), .ref (At 0), .ref (As 0), .ref (Ac 0), .ref (L 6 0)]))], dyW cyI Ad D, dyW cyI At T4, shW cyI As S4, [(ag, .inl (cyI, 6, .inl (g)))], [(ap, .inl (cyI, 20, .inl (p)))], [(aw, .inl (cyI, 20, .inl (w)))], [(aq, .inl (cyI, 20, .inl (q)))], [(a2, .inl (cyI, 20, .inl (f5)))]]) (As := [.ref (ag), .ref (aw), .int (nI (m))]) (rest := []) ⟨hx, hb, hml, hown, hts⟩ (c_L_roundOf l G cyI cyO ag aw g w D.2.2.2.2.2.1 (nI (m)) (hn) (hg0)) (va_cwS 3 hts gL_isSo_L_roundOf rfl rfl rfl (by decide +kernel) ⟨Nat.le_of_ble_eq_true rfl, Nat.le_of_ble_eq_true rfl⟩) hK hP hD hS hA [4, 6] rfl rfl (rfl : (2 : Nat) = 2) rfl hl.1 rfl (Nat.le_of_ble_eq_true rfl) dL_isSo_235 ⟨by show 3 + 4 * m ≤ 27; omega, by show 32 + 38 * m ≤ 260; omega⟩ (fun H locs hP hD hS => ?_)
          have hP : va_P G vwCl (cat [[(h, .inr (5, [.ref (Ad 0), .ref (At 0), .ref (As 0), .ref (Ac 0), .ref (L 6 0)]))], dyW cyI Ad D, dyW cyI At T4, shW cyI As S4, [(ag, .inl (cyI, 6, .inl (g)))], [(ap, .inl (cyI, 20, .inl (p)))], [(aw, .inl (cyI, 20, .inl (w)))], [(aq, .inl (cyI, 20, .inl (q)))], [(a2, .inl (cyI, 20, .inl (f5)))]]) H := hP
          have hD : va_D A9 (cat [[(h, .inr (5, [.ref (Ad 0), .ref (At 0), .ref (As 0), .ref (Ac 0), .ref (L 6 0)]))], dyW cyI Ad D, dyW cyI At T4, shW cyI As S4, [(ag, .inl (cyI, 6, .inl (g)))], [(ap, .inl (cyI, 20, .inl (p)))], [(aw, .inl (cyI, 20, .inl (w)))], [(aq, .inl (cyI, 20, .inl (q)))], [(a2, .inl (cyI, 20, .inl (f5)))]]) := hD
          have hsz := rSz_le D.2.1 D.2.2.2.2.2.1 (nI m)
          refine top_i (x' := nI (rSz D.2.1 D.2.2.2.2.2.1 (nI m))) (congrArg nI (rSz_congr fun d hd => (hPO d hd).2)) ?_
          refine lv_istore (lv' := [(12, .int (nI (rSz D.2.1 D.2.2.2.2.2.1 (nI m)))), (11, .int (nI (bt M m))), (10, .int (rLd D.1 D.2.1 D.2.2.2.2.2.1 (nI m))), (9, .int (nI (m))), (8, .int (nI (mo))), (7, .int (nI (le))), (6, .int (lsR D.2.2.2.2.2.1 M p w (fun _ => 0))), (5, .ref (a2)), (0, .ref (h)), (1, .ref (ag)), (2, .ref (ap)), (3, .ref (aw)), (4, .ref (aq))]) hx hb dL_isSo_238 hl (by decide) rfl (fun ls hl => ?_)
          refine lv_aload_n hx hb dL_isSo_240 rfl (lv_at hl 8 rfl) ?_
          refine lv_iload hx hb dL_isSo_241 (lv_at hl 3 rfl) ?_
          refine gVi (gs := [[(h, .inr (5, [.ref (Ad 0), .ref (At 0), .ref (As 0), .ref (Ac 0), .ref (L 6 0)]))], dyW cyI Ad D, dyW cyI At T4, shW cyI As S4, [(ag, .inl (cyI, 6, .inl (g)))], [(ap, .inl (cyI, 20, .inl (p)))], [(aw, .inl (cyI, 20, .inl (w)))], [(aq, .inl (cyI, 20, .inl (q)))], [(a2, .inl (cyI, 20, .inl (f5)))]]) (As := [.int (nI (m))]) (rest := []) ⟨hx, hb, hml, hown, hts⟩ (c_X5_isAtWork l G cyI cyO h Ad At As Ac L D m (by omega)) (cwV 1 hts gL_isSo_X5_isAtWork rfl rfl rfl (by decide +kernel) ⟨Nat.le_of_ble_eq_true rfl, Nat.le_of_ble_eq_true rfl⟩) hK hP hD hS hA [0, 1] rfl rfl (rfl : (2 : Nat) = 2) 0 5 rfl rfl rfl hl.1 rfl (Nat.le_of_ble_eq_true rfl) dL_isSo_243 ⟨by show 3 + 4 * m ≤ 27; omega, by show 32 + 38 * m ≤ 260; omega⟩ (fun H locs hP hD hS => ?_)
          have hP : va_P G vwCl (cat [[(h, .inr (5, [.ref (Ad 0), .ref (At 0), .ref (As 0), .ref (Ac 0), .ref (L 6 0)]))], dyW cyI Ad D, dyW cyI At T4, shW cyI As S4, [(ag, .inl (cyI, 6, .inl (g)))], [(ap, .inl (cyI, 20, .inl (p)))], [(aw, .inl (cyI, 20, .inl (w)))], [(aq, .inl (cyI, 20, .inl (q)))], [(a2, .inl (cyI, 20, .inl (f5)))]]) H := hP
          have hD : va_D A9 (cat [[(h, .inr (5, [.ref (Ad 0), .ref (At 0), .ref (As 0), .ref (Ac 0), .ref (L 6 0)]))], dyW cyI Ad D, dyW cyI At T4, shW cyI As S4, [(ag, .inl (cyI, 6, .inl (g)))], [(ap, .inl (cyI, 20, .inl (p)))], [(aw, .inl (cyI, 20, .inl (w)))], [(aq, .inl (cyI, 20, .inl (q)))], [(a2, .inl (cyI, 20, .inl (f5)))]]) := hD
          refine top_i (x' := nI (bt M m)) (work_law hR (by omega)) ?_
          refine lv_iload hx hb dL_isSo_246 (lv_at hl 1 rfl) ?_
          refine lv_icmp_ne (tgt := 273) hx hb dL_isSo_248 (by decide) (fun c_248 => ?_) (fun c_248 => ?_)
          · have c_248 : ¬ (bt M m) = (bt M m) := fun h9 => c_248 ((nI_eq (a := bt M m) (b := bt M m) (by omega) (by omega)).mpr h9)
            exact absurd rfl c_248
          · have c_248 : (bt M m) = (bt M m) := (nI_eq (a := bt M m) (b := bt M m) (by omega) (by omega)).mp c_248
            refine lv_aload_n hx hb dL_isSo_251 rfl (lv_at hl 8 rfl) ?_
            refine lv_iload hx hb dL_isSo_252 (lv_at hl 3 rfl) ?_
            refine gVi (gs := [[(h, .inr (5, [.ref (Ad 0), .ref (At 0), .ref (As 0), .ref (Ac 0), .ref (L 6 0)]))], dyW cyI Ad D, dyW cyI At T4, shW cyI As S4, [(ag, .inl (cyI, 6, .inl (g)))], [(ap, .inl (cyI, 20, .inl (p)))], [(aw, .inl (cyI, 20, .inl (w)))], [(aq, .inl (cyI, 20, .inl (q)))], [(a2, .inl (cyI, 20, .inl (f5)))]]) (As := [.int (nI (m))]) (rest := []) ⟨hx, hb, hml, hown, hts⟩ (c_X5_size l G cyI cyO h Ad At As Ac L D (by omega) m (by omega)) (cwV 1 hts gL_isSo_X5_size rfl rfl rfl (by decide +kernel) ⟨Nat.le_of_ble_eq_true rfl, Nat.le_of_ble_eq_true rfl⟩) hK hP hD hS hA [0, 1] rfl rfl (rfl : (2 : Nat) = 2) 0 5 rfl rfl rfl hl.1 rfl (Nat.le_of_ble_eq_true rfl) dL_isSo_254 ⟨by show 3 + 4 * m ≤ 27; omega, by show 32 + 38 * m ≤ 260; omega⟩ (fun H locs hP hD hS => ?_)
            have hP : va_P G vwCl (cat [[(h, .inr (5, [.ref (Ad 0), .ref (At 0), .ref (As 0), .ref (Ac 0), .ref (L 6 0)]))], dyW cyI Ad D, dyW cyI At T4, shW cyI As S4, [(ag, .inl (cyI, 6, .inl (g)))], [(ap, .inl (cyI, 20, .inl (p)))], [(aw, .inl (cyI, 20, .inl (w)))], [(aq, .inl (cyI, 20, .inl (q)))], [(a2, .inl (cyI, 20, .inl (f5)))]]) H := hP
            have hD : va_D A9 (cat [[(h, .inr (5, [.ref (Ad 0), .ref (At 0), .ref (As 0), .ref (Ac 0), .ref (L 6 0)]))], dyW cyI Ad D, dyW cyI At T4, shW cyI As S4, [(ag, .inl (cyI, 6, .inl (g)))], [(ap, .inl (cyI, 20, .inl (p)))], [(aw, .inl (cyI, 20, .inl (w)))], [(aq, .inl (cyI, 20, .inl (q)))], [(a2, .inl (cyI, 20, .inl (f5)))]]) := hD
            refine lv_iload hx hb dL_isSo_257 (lv_at hl 0 rfl) ?_
            refine lv_icmp_ne (tgt := 273) hx hb dL_isSo_259 (by decide) (fun c_259 => ?_) (fun c_259 => ?_)
            · have c_259 : ¬ (rSz D.2.1 D.2.2.2.2.2.1 (nI m)) = (rSz D.2.1 D.2.2.2.2.2.1 (nI m)) := fun h9 => c_259 ((nI_eq (a := rSz D.2.1 D.2.2.2.2.2.1 (nI m)) (b := rSz D.2.1 D.2.2.2.2.2.1 (nI m)) (by omega) (by omega)).mpr h9)
              exact absurd rfl c_259
            · have c_259 : (rSz D.2.1 D.2.2.2.2.2.1 (nI m)) = (rSz D.2.1 D.2.2.2.2.2.1 (nI m)) := (nI_eq (a := rSz D.2.1 D.2.2.2.2.2.1 (nI m)) (b := rSz D.2.1 D.2.2.2.2.2.1 (nI m)) (by omega) (by omega)).mp c_259
              refine lv_aload_n hx hb dL_isSo_262 rfl (lv_at hl 8 rfl) ?_
              refine lv_iload hx hb dL_isSo_263 (lv_at hl 3 rfl) ?_
              refine gVi (gs := [[(h, .inr (5, [.ref (Ad 0), .ref (At 0), .ref (As 0), .ref (Ac 0), .ref (L 6 0)]))], dyW cyI Ad D, dyW cyI At T4, shW cyI As S4, [(ag, .inl (cyI, 6, .inl (g)))], [(ap, .inl (cyI, 20, .inl (p)))], [(aw, .inl (cyI, 20, .inl (w)))], [(aq, .inl (cyI, 20, .inl (q)))], [(a2, .inl (cyI, 20, .inl (f5)))]]) (As := [.int (nI (m))]) (rest := []) ⟨hx, hb, hml, hown, hts⟩ (c_X5_load l G cyI cyO h Ad At As Ac L D (by omega) m (by omega)) (cwV 1 hts gL_isSo_X5_load rfl rfl rfl (by decide +kernel) ⟨Nat.le_of_ble_eq_true rfl, Nat.le_of_ble_eq_true rfl⟩) hK hP hD hS hA [0, 1] rfl rfl (rfl : (2 : Nat) = 2) 0 5 rfl rfl rfl hl.1 rfl (Nat.le_of_ble_eq_true rfl) dL_isSo_265 ⟨by show 3 + 4 * m ≤ 27; omega, by show 32 + 38 * m ≤ 260; omega⟩ (fun H locs hP hD hS => ?_)
              have hP : va_P G vwCl (cat [[(h, .inr (5, [.ref (Ad 0), .ref (At 0), .ref (As 0), .ref (Ac 0), .ref (L 6 0)]))], dyW cyI Ad D, dyW cyI At T4, shW cyI As S4, [(ag, .inl (cyI, 6, .inl (g)))], [(ap, .inl (cyI, 20, .inl (p)))], [(aw, .inl (cyI, 20, .inl (w)))], [(aq, .inl (cyI, 20, .inl (q)))], [(a2, .inl (cyI, 20, .inl (f5)))]]) H := hP
              have hD : va_D A9 (cat [[(h, .inr (5, [.ref (Ad 0), .ref (At 0), .ref (As 0), .ref (Ac 0), .ref (L 6 0)]))], dyW cyI Ad D, dyW cyI At T4, shW cyI As S4, [(ag, .inl (cyI, 6, .inl (g)))], [(ap, .inl (cyI, 20, .inl (p)))], [(aw, .inl (cyI, 20, .inl (w)))], [(aq, .inl (cyI, 20, .inl (q)))], [(a2, .inl (cyI, 20, .inl (f5)))]]) := hD
              refine lv_iload hx hb dL_isSo_268 (lv_at hl 2 rfl) ?_
              refine lv_icmp_eq (tgt := 275) hx hb dL_isSo_270 (by decide) (fun c_270 => ?_) (fun c_270 => ?_)
              · refine W_join (pc2 := 294) (v := .int (nI ((dfStep D.2.1 D.2.2.1 D.2.2.2.2.2.1 m (mo, le)).2))) (l2 := ls) (rest := []) ?_ (fun j_294 => ?_)
                · refine lv_istore (lv' := [(7, .int (nI ((dfStep D.2.1 D.2.2.1 D.2.2.2.2.2.1 m (mo, le)).2))), (12, .int (nI (rSz D.2.1 D.2.2.2.2.2.1 (nI m)))), (11, .int (nI (bt M m))), (10, .int (rLd D.1 D.2.1 D.2.2.2.2.2.1 (nI m))), (9, .int (nI (m))), (8, .int (nI (mo))), (6, .int (lsR D.2.2.2.2.2.1 M p w (fun _ => 0))), (5, .ref (a2)), (0, .ref (h)), (1, .ref (ag)), (2, .ref (ap)), (3, .ref (aw)), (4, .ref (aq))]) hx hb dL_isSo_294 hl (by decide) rfl (fun ls hl => ?_)
                  refine W_join (pc2 := 310) (v := .int (nI ((dfStep D.2.1 D.2.2.1 D.2.2.2.2.2.1 m (mo, le)).1))) (l2 := ls) (rest := []) ?_ (fun j_310 => ?_)
                  · refine lv_istore (lv' := [(8, .int (nI ((dfStep D.2.1 D.2.2.1 D.2.2.2.2.2.1 m (mo, le)).1))), (7, .int (nI ((dfStep D.2.1 D.2.2.1 D.2.2.2.2.2.1 m (mo, le)).2))), (12, .int (nI (rSz D.2.1 D.2.2.2.2.2.1 (nI m)))), (11, .int (nI (bt M m))), (10, .int (rLd D.1 D.2.1 D.2.2.2.2.2.1 (nI m))), (9, .int (nI (m))), (6, .int (lsR D.2.2.2.2.2.1 M p w (fun _ => 0))), (5, .ref (a2)), (0, .ref (h)), (1, .ref (ag)), (2, .ref (ap)), (3, .ref (aw)), (4, .ref (aq))]) hx hb dL_isSo_310 hl (by decide) rfl (fun ls hl => ?_)
                    refine lv_bipush (v := (6 : Int32)) hx hb dL_isSo_312 (by decide) ?_
                    refine r_newa (t0 := 0) (k := 6) hx hb (hts (.arrayClass .int) (by decide +kernel)) hK rfl hP hD hS hA rfl (by omega) (by omega) ⟨by show 3 + 4 * m + 1 ≤ 27; omega, by show 32 + 38 * m + 6 ≤ 260; omega⟩ dL_isSo_314 (fun a314 H hP hD hS => ?_)
                    have hP : va_P G vwCl (cat [[(h, .inr (5, [.ref (Ad 0), .ref (At 0), .ref (As 0), .ref (Ac 0), .ref (L 6 0)]))], dyW cyI Ad D, dyW cyI At T4, shW cyI As S4, [(ag, .inl (cyI, 6, .inl (g)))], [(ap, .inl (cyI, 20, .inl (p)))], [(aw, .inl (cyI, 20, .inl (w)))], [(aq, .inl (cyI, 20, .inl (q)))], [(a2, .inl (cyI, 20, .inl (f5)))], [(a314, .inl (cyI, 6, .inl (fun _ => 0)))]]) H := hP
                    have hD : va_D A9 (cat [[(h, .inr (5, [.ref (Ad 0), .ref (At 0), .ref (As 0), .ref (Ac 0), .ref (L 6 0)]))], dyW cyI Ad D, dyW cyI At T4, shW cyI As S4, [(ag, .inl (cyI, 6, .inl (g)))], [(ap, .inl (cyI, 20, .inl (p)))], [(aw, .inl (cyI, 20, .inl (w)))], [(aq, .inl (cyI, 20, .inl (q)))], [(a2, .inl (cyI, 20, .inl (f5)))], [(a314, .inl (cyI, 6, .inl (fun _ => 0)))]]) := hD
                    refine W.cs (cells' := 3 + 4 * m + 1) (slots' := 32 + 38 * m + 6) (by omega) (by omega) ?_
                    refine lv_astore (lv' := [(13, .ref (a314)), (8, .int (nI ((dfStep D.2.1 D.2.2.1 D.2.2.2.2.2.1 m (mo, le)).1))), (7, .int (nI ((dfStep D.2.1 D.2.2.1 D.2.2.2.2.2.1 m (mo, le)).2))), (12, .int (nI (rSz D.2.1 D.2.2.2.2.2.1 (nI m)))), (11, .int (nI (bt M m))), (10, .int (rLd D.1 D.2.1 D.2.2.2.2.2.1 (nI m))), (9, .int (nI (m))), (6, .int (lsR D.2.2.2.2.2.1 M p w (fun _ => 0))), (5, .ref (a2)), (0, .ref (h)), (1, .ref (ag)), (2, .ref (ap)), (3, .ref (aw)), (4, .ref (aq))]) hx hb dL_isSo_316 hl (by decide) rfl (fun ls hl => ?_)
                    refine lv_bipush (v := (20 : Int32)) hx hb dL_isSo_318 (by decide) ?_
                    refine r_newa (t0 := 0) (k := 20) hx hb (hts (.arrayClass .int) (by decide +kernel)) hK rfl hP hD hS hA rfl (by omega) (by omega) ⟨by show 3 + 4 * m + 1 + 1 ≤ 27; omega, by show 32 + 38 * m + 6 + 20 ≤ 260; omega⟩ dL_isSo_320 (fun a320 H hP hD hS => ?_)
                    have hP : va_P G vwCl (cat [[(h, .inr (5, [.ref (Ad 0), .ref (At 0), .ref (As 0), .ref (Ac 0), .ref (L 6 0)]))], dyW cyI Ad D, dyW cyI At T4, shW cyI As S4, [(ag, .inl (cyI, 6, .inl (g)))], [(ap, .inl (cyI, 20, .inl (p)))], [(aw, .inl (cyI, 20, .inl (w)))], [(aq, .inl (cyI, 20, .inl (q)))], [(a2, .inl (cyI, 20, .inl (f5)))], [(a314, .inl (cyI, 6, .inl (fun _ => 0)))], [(a320, .inl (cyI, 20, .inl (fun _ => 0)))]]) H := hP
                    have hD : va_D A9 (cat [[(h, .inr (5, [.ref (Ad 0), .ref (At 0), .ref (As 0), .ref (Ac 0), .ref (L 6 0)]))], dyW cyI Ad D, dyW cyI At T4, shW cyI As S4, [(ag, .inl (cyI, 6, .inl (g)))], [(ap, .inl (cyI, 20, .inl (p)))], [(aw, .inl (cyI, 20, .inl (w)))], [(aq, .inl (cyI, 20, .inl (q)))], [(a2, .inl (cyI, 20, .inl (f5)))], [(a314, .inl (cyI, 6, .inl (fun _ => 0)))], [(a320, .inl (cyI, 20, .inl (fun _ => 0)))]]) := hD
                    refine W.cs (cells' := 3 + 4 * m + 2) (slots' := 32 + 38 * m + 26) (by omega) (by omega) ?_
                    refine lv_astore (lv' := [(14, .ref (a320)), (13, .ref (a314)), (8, .int (nI ((dfStep D.2.1 D.2.2.1 D.2.2.2.2.2.1 m (mo, le)).1))), (7, .int (nI ((dfStep D.2.1 D.2.2.1 D.2.2.2.2.2.1 m (mo, le)).2))), (12, .int (nI (rSz D.2.1 D.2.2.2.2.2.1 (nI m)))), (11, .int (nI (bt M m))), (10, .int (rLd D.1 D.2.1 D.2.2.2.2.2.1 (nI m))), (9, .int (nI (m))), (6, .int (lsR D.2.2.2.2.2.1 M p w (fun _ => 0))), (5, .ref (a2)), (0, .ref (h)), (1, .ref (ag)), (2, .ref (ap)), (3, .ref (aw)), (4, .ref (aq))]) hx hb dL_isSo_322 hl (by decide) rfl (fun ls hl => ?_)
                    refine lv_aload hx hb dL_isSo_324 (lv_at hl 1 rfl) ?_
                    refine lv_iconst (v := (0 : Int32)) hx hb dL_isSo_326 (by decide) ?_
                    refine lv_aload_n hx hb dL_isSo_327 rfl (lv_at hl 11 rfl) ?_
                    refine lv_iconst (v := (0 : Int32)) hx hb dL_isSo_328 (by decide) ?_
                    refine r_ild (k := 0) (n := 6) (f := g) hx hb hK hP 36 0 rfl rfl (by omega) (by omega) rfl dL_isSo_329 ?_
                    refine top_i (x' := nI (D.2.2.2.2.2.1)) (hg0) ?_
                    refine r_ist (k := 0) (n := 6) (f := fun _ => 0) hx hb hK hP hD hS 41 0 rfl rfl (by omega) (by omega) rfl dL_isSo_330 (fun H locs hP hD hS => ?_)
                    have hP : va_P G vwCl (cat [[(h, .inr (5, [.ref (Ad 0), .ref (At 0), .ref (As 0), .ref (Ac 0), .ref (L 6 0)]))], dyW cyI Ad D, dyW cyI At T4, shW cyI As S4, [(ag, .inl (cyI, 6, .inl (g)))], [(ap, .inl (cyI, 20, .inl (p)))], [(aw, .inl (cyI, 20, .inl (w)))], [(aq, .inl (cyI, 20, .inl (q)))], [(a2, .inl (cyI, 20, .inl (f5)))], [(a314, .inl (cyI, 6, .inl (upd (fun _ => 0) 0 (nI (D.2.2.2.2.2.1)))))], [(a320, .inl (cyI, 20, .inl (fun _ => 0)))]]) H := hP
                    have hD : va_D A9 (cat [[(h, .inr (5, [.ref (Ad 0), .ref (At 0), .ref (As 0), .ref (Ac 0), .ref (L 6 0)]))], dyW cyI Ad D, dyW cyI At T4, shW cyI As S4, [(ag, .inl (cyI, 6, .inl (g)))], [(ap, .inl (cyI, 20, .inl (p)))], [(aw, .inl (cyI, 20, .inl (w)))], [(aq, .inl (cyI, 20, .inl (q)))], [(a2, .inl (cyI, 20, .inl (f5)))], [(a314, .inl (cyI, 6, .inl (upd (fun _ => 0) 0 (nI (D.2.2.2.2.2.1)))))], [(a320, .inl (cyI, 20, .inl (fun _ => 0)))]]) := hD
                    refine lv_aload hx hb dL_isSo_331 (lv_at hl 1 rfl) ?_
                    refine lv_iconst (v := (5 : Int32)) hx hb dL_isSo_333 (by decide) ?_
                    refine lv_aload_n hx hb dL_isSo_334 rfl (lv_at hl 11 rfl) ?_
                    refine lv_iconst (v := (5 : Int32)) hx hb dL_isSo_335 (by decide) ?_
                    refine r_ild (k := 5) (n := 6) (f := g) hx hb hK hP 36 0 rfl rfl (by omega) (by omega) rfl dL_isSo_336 ?_
                    refine top_i (x' := nI (M)) (hg5) ?_
                    refine lv_iconst (v := (1 : Int32)) hx hb dL_isSo_337 (by decide) ?_
                    refine lv_iload hx hb dL_isSo_338 (lv_at hl 7 rfl) ?_
                    refine lv_ishl hx hb dL_isSo_340 ?_
                    refine lv_ixor hx hb dL_isSo_341 ?_
                    refine top_i (x' := nI (M ^^^ 2 ^ m)) (xor_all M (hM) m (by omega)) ?_
                    refine r_ist (k := 5) (n := 6) (f := upd (fun _ => 0) 0 (nI (D.2.2.2.2.2.1))) hx hb hK hP hD hS 41 0 rfl rfl (by omega) (by omega) rfl dL_isSo_342 (fun H locs hP hD hS => ?_)
                    have hP : va_P G vwCl (cat [[(h, .inr (5, [.ref (Ad 0), .ref (At 0), .ref (As 0), .ref (Ac 0), .ref (L 6 0)]))], dyW cyI Ad D, dyW cyI At T4, shW cyI As S4, [(ag, .inl (cyI, 6, .inl (g)))], [(ap, .inl (cyI, 20, .inl (p)))], [(aw, .inl (cyI, 20, .inl (w)))], [(aq, .inl (cyI, 20, .inl (q)))], [(a2, .inl (cyI, 20, .inl (f5)))], [(a314, .inl (cyI, 6, .inl (upd (upd (fun _ => 0) 0 (nI (D.2.2.2.2.2.1))) 5 (nI (M ^^^ 2 ^ m)))))], [(a320, .inl (cyI, 20, .inl (fun _ => 0)))]]) H := hP
                    have hD : va_D A9 (cat [[(h, .inr (5, [.ref (Ad 0), .ref (At 0), .ref (As 0), .ref (Ac 0), .ref (L 6 0)]))], dyW cyI Ad D, dyW cyI At T4, shW cyI As S4, [(ag, .inl (cyI, 6, .inl (g)))], [(ap, .inl (cyI, 20, .inl (p)))], [(aw, .inl (cyI, 20, .inl (w)))], [(aq, .inl (cyI, 20, .inl (q)))], [(a2, .inl (cyI, 20, .inl (f5)))], [(a314, .inl (cyI, 6, .inl (upd (upd (fun _ => 0) 0 (nI (D.2.2.2.2.2.1))) 5 (nI (M ^^^ 2 ^ m)))))], [(a320, .inl (cyI, 20, .inl (fun _ => 0)))]]) := hD
                    refine lv_iconst (v := (0 : Int32)) hx hb dL_isSo_343 (by decide) ?_
                    refine lv_istore (lv' := [(15, .int ((0 : Int32))), (14, .ref (a320)), (13, .ref (a314)), (8, .int (nI ((dfStep D.2.1 D.2.2.1 D.2.2.2.2.2.1 m (mo, le)).1))), (7, .int (nI ((dfStep D.2.1 D.2.2.1 D.2.2.2.2.2.1 m (mo, le)).2))), (12, .int (nI (rSz D.2.1 D.2.2.2.2.2.1 (nI m)))), (11, .int (nI (bt M m))), (10, .int (rLd D.1 D.2.1 D.2.2.2.2.2.1 (nI m))), (9, .int (nI (m))), (6, .int (lsR D.2.2.2.2.2.1 M p w (fun _ => 0))), (5, .ref (a2)), (0, .ref (h)), (1, .ref (ag)), (2, .ref (ap)), (3, .ref (aw)), (4, .ref (aq))]) hx hb dL_isSo_344 hl (by decide) rfl (fun ls hl => ?_)
                    refine W_loop (α := Nat) (I := fun a9 H locs ls => (a9 ≤ D.2.2.2.2.2.1) ∧ va_P G vwCl (cat [[(h, .inr (5, [.ref (Ad 0), .ref (At 0), .ref (As 0), .ref (Ac 0), .ref (L 6 0)]))], dyW cyI Ad D, dyW cyI At T4, shW cyI As S4, [(ag, .inl (cyI, 6, .inl (g)))], [(ap, .inl (cyI, 20, .inl (p)))], [(aw, .inl (cyI, 20, .inl (w)))], [(aq, .inl (cyI, 20, .inl (q)))], [(a2, .inl (cyI, 20, .inl (f5)))], [(a314, .inl (cyI, 6, .inl (upd (upd (fun _ => 0) 0 (nI (D.2.2.2.2.2.1))) 5 (nI (M ^^^ 2 ^ m)))))], [(a320, .inl (cyI, 20, .inl (itr a9 (fun j f => upd f j (if w j = nI m then -1 else w j)) (fun _ => 0))))]]) H ∧ va_D A9 (cat [[(h, .inr (5, [.ref (Ad 0), .ref (At 0), .ref (As 0), .ref (Ac 0), .ref (L 6 0)]))], dyW cyI Ad D, dyW cyI At T4, shW cyI As S4, [(ag, .inl (cyI, 6, .inl (g)))], [(ap, .inl (cyI, 20, .inl (p)))], [(aw, .inl (cyI, 20, .inl (w)))], [(aq, .inl (cyI, 20, .inl (q)))], [(a2, .inl (cyI, 20, .inl (f5)))], [(a314, .inl (cyI, 6, .inl (upd (upd (fun _ => 0) 0 (nI (D.2.2.2.2.2.1))) 5 (nI (M ^^^ 2 ^ m)))))], [(a320, .inl (cyI, 20, .inl (itr a9 (fun j f => upd f j (if w j = nI m then -1 else w j)) (fun _ => 0))))]]) ∧ va_S A9 s9.heap H locs ∧ lv_has ls 16 [(15, .int (nI (a9))), (14, .ref (a320)), (13, .ref (a314)), (8, .int (nI ((dfStep D.2.1 D.2.2.1 D.2.2.2.2.2.1 m (mo, le)).1))), (7, .int (nI ((dfStep D.2.1 D.2.2.1 D.2.2.2.2.2.1 m (mo, le)).2))), (12, .int (nI (rSz D.2.1 D.2.2.2.2.2.1 (nI m)))), (11, .int (nI (bt M m))), (10, .int (rLd D.1 D.2.1 D.2.2.2.2.2.1 (nI m))), (9, .int (nI (m))), (6, .int (lsR D.2.2.2.2.2.1 M p w (fun _ => 0))), (5, .ref (a2)), (0, .ref (h)), (1, .ref (ag)), (2, .ref (ap)), (3, .ref (aw)), (4, .ref (aq))]) (μ := fun a9 => D.2.2.2.2.2.1 - a9) (st := fun a9 => []) ?_ (0) _ _ _ ⟨(show 0 ≤ D.2.2.2.2.2.1 from Nat.zero_le _), hP, hD, hS, lv_sub hl [0, 1, 2, 3, 4, 5, 6, 7, 8, 9, 10, 11, 12, 13, 14, 15] rfl⟩
                    intro a9 ih_346 H locs ls hI
                    obtain ⟨i, ea9⟩ : ∃ z, z = a9 := ⟨_, rfl⟩
                    subst ea9
                    obtain ⟨hi9, hP9, hD9, hS9, hl9⟩ := hI
                    have hi : i ≤ D.2.2.2.2.2.1 := hi9
                    have hP : va_P G vwCl (cat [[(h, .inr (5, [.ref (Ad 0), .ref (At 0), .ref (As 0), .ref (Ac 0), .ref (L 6 0)]))], dyW cyI Ad D, dyW cyI At T4, shW cyI As S4, [(ag, .inl (cyI, 6, .inl (g)))], [(ap, .inl (cyI, 20, .inl (p)))], [(aw, .inl (cyI, 20, .inl (w)))], [(aq, .inl (cyI, 20, .inl (q)))], [(a2, .inl (cyI, 20, .inl (f5)))], [(a314, .inl (cyI, 6, .inl (upd (upd (fun _ => 0) 0 (nI (D.2.2.2.2.2.1))) 5 (nI (M ^^^ 2 ^ m)))))], [(a320, .inl (cyI, 20, .inl (itr i (fun j f => upd f j (if w j = nI m then -1 else w j)) (fun _ => 0))))]]) H := hP9
                    have hD : va_D A9 (cat [[(h, .inr (5, [.ref (Ad 0), .ref (At 0), .ref (As 0), .ref (Ac 0), .ref (L 6 0)]))], dyW cyI Ad D, dyW cyI At T4, shW cyI As S4, [(ag, .inl (cyI, 6, .inl (g)))], [(ap, .inl (cyI, 20, .inl (p)))], [(aw, .inl (cyI, 20, .inl (w)))], [(aq, .inl (cyI, 20, .inl (q)))], [(a2, .inl (cyI, 20, .inl (f5)))], [(a314, .inl (cyI, 6, .inl (upd (upd (fun _ => 0) 0 (nI (D.2.2.2.2.2.1))) 5 (nI (M ^^^ 2 ^ m)))))], [(a320, .inl (cyI, 20, .inl (itr i (fun j f => upd f j (if w j = nI m then -1 else w j)) (fun _ => 0))))]]) := hD9
                    have hS := hS9
                    have hl : lv_has ls 16 [(15, .int (nI (i))), (14, .ref (a320)), (13, .ref (a314)), (8, .int (nI ((dfStep D.2.1 D.2.2.1 D.2.2.2.2.2.1 m (mo, le)).1))), (7, .int (nI ((dfStep D.2.1 D.2.2.1 D.2.2.2.2.2.1 m (mo, le)).2))), (12, .int (nI (rSz D.2.1 D.2.2.2.2.2.1 (nI m)))), (11, .int (nI (bt M m))), (10, .int (rLd D.1 D.2.1 D.2.2.2.2.2.1 (nI m))), (9, .int (nI (m))), (6, .int (lsR D.2.2.2.2.2.1 M p w (fun _ => 0))), (5, .ref (a2)), (0, .ref (h)), (1, .ref (ag)), (2, .ref (ap)), (3, .ref (aw)), (4, .ref (aq))] := hl9
                    clear hi9 hP9 hD9 hS9 hl9
                    refine lv_iload hx hb dL_isSo_346 (lv_at hl 0 rfl) ?_
                    refine lv_aload_n hx hb dL_isSo_348 rfl (lv_at hl 12 rfl) ?_
                    refine lv_iconst (v := (0 : Int32)) hx hb dL_isSo_349 (by decide) ?_
                    refine r_ild (k := 0) (n := 6) (f := g) hx hb hK hP 36 0 rfl rfl (by omega) (by omega) rfl dL_isSo_350 ?_
                    refine top_i (x' := nI (D.2.2.2.2.2.1)) (hg0) ?_
                    refine lv_icmp_ge (tgt := 382) hx hb dL_isSo_351 (by decide) (fun c_351 => ?_) (fun c_351 => ?_)
                    · have c_351 : (D.2.2.2.2.2.1) ≤ (i) := (nI_leI (a := D.2.2.2.2.2.1) (b := i) (by omega) (by omega)).mp c_351
                      obtain rfl : D.2.2.2.2.2.1 = i := by omega
                      have hP : va_P G vwCl (cat [[(h, .inr (5, [.ref (Ad 0), .ref (At 0), .ref (As 0), .ref (Ac 0), .ref (L 6 0)]))], dyW cyI Ad D, dyW cyI At T4, shW cyI As S4, [(ag, .inl (cyI, 6, .inl (g)))], [(ap, .inl (cyI, 20, .inl (p)))], [(aw, .inl (cyI, 20, .inl (w)))], [(aq, .inl (cyI, 20, .inl (q)))], [(a2, .inl (cyI, 20, .inl (f5)))], [(a314, .inl (cyI, 6, .inl (upd (upd (fun _ => 0) 0 (nI (D.2.2.2.2.2.1))) 5 (nI (M ^^^ 2 ^ m)))))], [(a320, .inl (cyI, 20, .inl (w2F w D.2.2.2.2.2.1 m)))]]) H := hP
                      have hD : va_D A9 (cat [[(h, .inr (5, [.ref (Ad 0), .ref (At 0), .ref (As 0), .ref (Ac 0), .ref (L 6 0)]))], dyW cyI Ad D, dyW cyI At T4, shW cyI As S4, [(ag, .inl (cyI, 6, .inl (g)))], [(ap, .inl (cyI, 20, .inl (p)))], [(aw, .inl (cyI, 20, .inl (w)))], [(aq, .inl (cyI, 20, .inl (q)))], [(a2, .inl (cyI, 20, .inl (f5)))], [(a314, .inl (cyI, 6, .inl (upd (upd (fun _ => 0) 0 (nI (D.2.2.2.2.2.1))) 5 (nI (M ^^^ 2 ^ m)))))], [(a320, .inl (cyI, 20, .inl (w2F w D.2.2.2.2.2.1 m)))]]) := hD
                      refine lv_aload_n hx hb dL_isSo_382 rfl (lv_at hl 11 rfl) ?_
                      refine lv_iload hx hb dL_isSo_383 (lv_at hl 8 rfl) ?_
                      refine gVi (gs := [[(h, .inr (5, [.ref (Ad 0), .ref (At 0), .ref (As 0), .ref (Ac 0), .ref (L 6 0)]))], dyW cyI Ad D, dyW cyI At T4, shW cyI As S4, [(ag, .inl (cyI, 6, .inl (g)))], [(ap, .inl (cyI, 20, .inl (p)))], [(aw, .inl (cyI, 20, .inl (w)))], [(aq, .inl (cyI, 20, .inl (q)))], [(a2, .inl (cyI, 20, .inl (f5)))], [(a314, .inl (cyI, 6, .inl (upd (upd (fun _ => 0) 0 (nI (D.2.2.2.2.2.1))) 5 (nI (M ^^^ 2 ^ m)))))], [(a320, .inl (cyI, 20, .inl (w2F w D.2.2.2.2.2.1 m)))]]) (As := [.int (nI (m))]) (rest := []) ⟨hx, hb, hml, hown, hts⟩ (c_X5_changesIf l G cyI cyO h Ad At As Ac L S4 T4 D m (by omega) (by omega)) (cwV 1 hts gL_isSo_X5_changesIf rfl rfl rfl (by decide +kernel) ⟨Nat.le_of_ble_eq_true rfl, Nat.le_of_ble_eq_true rfl⟩) hK hP hD hS hA [0, 3, 2, 1] rfl rfl (rfl : (4 : Nat) = 4) 0 5 rfl rfl rfl hl.1 rfl (Nat.le_of_ble_eq_true rfl) dL_isSo_385 ⟨by show 3 + 4 * m + 2 ≤ 27; omega, by show 32 + 38 * m + 26 ≤ 260; omega⟩ (fun H locs hP hD hS => ?_)
                      have hP : va_P G vwCl (cat [[(h, .inr (5, [.ref (Ad 0), .ref (At 0), .ref (As 0), .ref (Ac 0), .ref (L 6 0)]))], dyW cyI Ad D, dyW cyI At (dSw T4 D m), shW cyI As (shOut S4 (dSw T4 D m)), [(ag, .inl (cyI, 6, .inl (g)))], [(ap, .inl (cyI, 20, .inl (p)))], [(aw, .inl (cyI, 20, .inl (w)))], [(aq, .inl (cyI, 20, .inl (q)))], [(a2, .inl (cyI, 20, .inl (f5)))], [(a314, .inl (cyI, 6, .inl (upd (upd (fun _ => 0) 0 (nI (D.2.2.2.2.2.1))) 5 (nI (M ^^^ 2 ^ m)))))], [(a320, .inl (cyI, 20, .inl (w2F w D.2.2.2.2.2.1 m)))]]) H := hP
                      have hD : va_D A9 (cat [[(h, .inr (5, [.ref (Ad 0), .ref (At 0), .ref (As 0), .ref (Ac 0), .ref (L 6 0)]))], dyW cyI Ad D, dyW cyI At (dSw T4 D m), shW cyI As (shOut S4 (dSw T4 D m)), [(ag, .inl (cyI, 6, .inl (g)))], [(ap, .inl (cyI, 20, .inl (p)))], [(aw, .inl (cyI, 20, .inl (w)))], [(aq, .inl (cyI, 20, .inl (q)))], [(a2, .inl (cyI, 20, .inl (f5)))], [(a314, .inl (cyI, 6, .inl (upd (upd (fun _ => 0) 0 (nI (D.2.2.2.2.2.1))) 5 (nI (M ^^^ 2 ^ m)))))], [(a320, .inl (cyI, 20, .inl (w2F w D.2.2.2.2.2.1 m)))]]) := hD
                      obtain ⟨pn2, hLs2⟩ := sw_lsp hR (show m < 6 by omega)
                      refine lv_aload hx hb dL_isSo_388 (lv_at hl 2 rfl) ?_
                      refine lv_aload_n hx hb dL_isSo_390 rfl (lv_at hl 13 rfl) ?_
                      refine lv_aload hx hb dL_isSo_391 (lv_at hl 1 rfl) ?_
                      refine lv_aload hx hb dL_isSo_393 (lv_at hl 10 rfl) ?_
                      refine gSa (gs := [[(h, .inr (5, [.ref (Ad 0), .ref (At 0), .ref (As 0), .ref (Ac 0), .ref (L 6 0)]))], dyW cyI Ad D, dyW cyI At (dSw T4 D m), shW cyI As (shOut S4 (dSw T4 D m)), [(ag, .inl (cyI, 6, .inl (g)))], [(ap, .inl (cyI, 20, .inl (p)))], [(aw, .inl (cyI, 20, .inl (w)))], [(aq, .inl (cyI, 20, .inl (q)))], [(a2, .inl (cyI, 20, .inl (f5)))], [(a314, .inl (cyI, 6, .inl (upd (upd (fun _ => 0) 0 (nI (D.2.2.2.2.2.1))) 5 (nI (M ^^^ 2 ^ m)))))], [(a320, .inl (cyI, 20, .inl (w2F w D.2.2.2.2.2.1 m)))]]) (As := [.ref (a314), .ref (ap), .ref (a320), .ref (a2)]) (rest := [.int (shRes S4 (dSw T4 D m))]) ⟨hx, hb, hml, hown, hts⟩ (c_L_share l G cyI cyO a314 ap a320 a2 (upd (upd (fun _ => 0) 0 (nI (D.2.2.2.2.2.1))) 5 (nI (M ^^^ 2 ^ m))) p (w2F w D.2.2.2.2.2.1 m) f5 D.2.2.2.2.2.1 (M ^^^ 2 ^ m) pn2 (hLs2) (by rw [pk_un (by decide), pk_us]) (pk_us)) (va_cwS 4 hts gL_isSo_L_share rfl rfl rfl (by decide +kernel) ⟨Nat.le_of_ble_eq_true rfl, Nat.le_of_ble_eq_true rfl⟩) hK hP hD hS hA [9, 5, 10, 8] rfl rfl (rfl : (4 : Nat) = 4) rfl hl.1 rfl (Nat.le_of_ble_eq_true rfl) dL_isSo_395 ⟨by show 3 + 4 * m + 2 + 2 ≤ 27; omega, by show 32 + 38 * m + 26 + 12 ≤ 260; omega⟩ (fun H locs hP hD hS => ?_)
                      have hP : va_P G vwCl (cat [[(h, .inr (5, [.ref (Ad 0), .ref (At 0), .ref (As 0), .ref (Ac 0), .ref (L 6 0)]))], dyW cyI Ad D, dyW cyI At (dSw T4 D m), shW cyI As (shOut S4 (dSw T4 D m)), [(ag, .inl (cyI, 6, .inl (g)))], [(ap, .inl (cyI, 20, .inl (p)))], [(aw, .inl (cyI, 20, .inl (w)))], [(aq, .inl (cyI, 20, .inl (q)))], [(a2, .inl (cyI, 20, .inl (lsG D.2.2.2.2.2.1 (M ^^^ 2 ^ m) p (w2F w D.2.2.2.2.2.1 m) f5)))], [(a314, .inl (cyI, 6, .inl (upd (upd (fun _ => 0) 0 (nI (D.2.2.2.2.2.1))) 5 (nI (M ^^^ 2 ^ m)))))], [(a320, .inl (cyI, 20, .inl (w2F w D.2.2.2.2.2.1 m)))]]) H := hP
                      have hD : va_D A9 (cat [[(h, .inr (5, [.ref (Ad 0), .ref (At 0), .ref (As 0), .ref (Ac 0), .ref (L 6 0)]))], dyW cyI Ad D, dyW cyI At (dSw T4 D m), shW cyI As (shOut S4 (dSw T4 D m)), [(ag, .inl (cyI, 6, .inl (g)))], [(ap, .inl (cyI, 20, .inl (p)))], [(aw, .inl (cyI, 20, .inl (w)))], [(aq, .inl (cyI, 20, .inl (q)))], [(a2, .inl (cyI, 20, .inl (lsG D.2.2.2.2.2.1 (M ^^^ 2 ^ m) p (w2F w D.2.2.2.2.2.1 m) f5)))], [(a314, .inl (cyI, 6, .inl (upd (upd (fun _ => 0) 0 (nI (D.2.2.2.2.2.1))) 5 (nI (M ^^^ 2 ^ m)))))], [(a320, .inl (cyI, 20, .inl (w2F w D.2.2.2.2.2.1 m)))]]) := hD
                      refine W.cs (cells' := 3 + 4 * m + 4) (slots' := 32 + 38 * m + 38) (by omega) (by omega) ?_
                      refine lv_icmp_eq (tgt := 403) hx hb dL_isSo_398 (by decide) (fun c_398 => ?_) (fun c_398 => ?_)
                      · refine lv_iinc (v := nI (m + 1)) (lv' := [(9, .int (nI (m + 1))), (15, .int (nI (D.2.2.2.2.2.1))), (14, .ref (a320)), (13, .ref (a314)), (8, .int (nI ((dfStep D.2.1 D.2.2.1 D.2.2.2.2.2.1 m (mo, le)).1))), (7, .int (nI ((dfStep D.2.1 D.2.2.1 D.2.2.2.2.2.1 m (mo, le)).2))), (12, .int (nI (rSz D.2.1 D.2.2.2.2.2.1 (nI m)))), (11, .int (nI (bt M m))), (10, .int (rLd D.1 D.2.1 D.2.2.2.2.2.1 (nI m))), (6, .int (lsR D.2.2.2.2.2.1 M p w (fun _ => 0))), (5, .ref (a2)), (0, .ref (h)), (1, .ref (ag)), (2, .ref (ap)), (3, .ref (aw)), (4, .ref (aq))]) hx hb dL_isSo_403 hl (k := 8) rfl (nI_add _ _) (by decide) rfl (fun ls hl => ?_)
                        refine lv_goto (tgt := 163) hx hb dL_isSo_406 (by decide) ?_
                        have hP := seg_P (gi := [[(h, .inr (5, [.ref (Ad 0), .ref (At 0), .ref (As 0), .ref (Ac 0), .ref (L 6 0)]))], dyW cyI Ad D, dyW cyI At (dSw T4 D m), shW cyI As (shOut S4 (dSw T4 D m)), [(ag, .inl (cyI, 6, .inl (g)))], [(ap, .inl (cyI, 20, .inl (p)))], [(aw, .inl (cyI, 20, .inl (w)))], [(aq, .inl (cyI, 20, .inl (q)))], [(a2, .inl (cyI, 20, .inl (lsG D.2.2.2.2.2.1 (M ^^^ 2 ^ m) p (w2F w D.2.2.2.2.2.1 m) f5)))]]) hP (is := [0, 1, 2, 3, 4, 5, 6, 7, 8]) rfl rfl
                        have hD := seg_D (gi := [[(h, .inr (5, [.ref (Ad 0), .ref (At 0), .ref (As 0), .ref (Ac 0), .ref (L 6 0)]))], dyW cyI Ad D, dyW cyI At (dSw T4 D m), shW cyI As (shOut S4 (dSw T4 D m)), [(ag, .inl (cyI, 6, .inl (g)))], [(ap, .inl (cyI, 20, .inl (p)))], [(aw, .inl (cyI, 20, .inl (w)))], [(aq, .inl (cyI, 20, .inl (q)))], [(a2, .inl (cyI, 20, .inl (lsG D.2.2.2.2.2.1 (M ^^^ 2 ^ m) p (w2F w D.2.2.2.2.2.1 m) f5)))]]) hD (is := [0, 1, 2, 3, 4, 5, 6, 7, 8]) rfl rfl
                        have hP : va_P G vwCl (cat [[(h, .inr (5, [.ref (Ad 0), .ref (At 0), .ref (As 0), .ref (Ac 0), .ref (L 6 0)]))], dyW cyI Ad D, dyW cyI At (dSw T4 D m), shW cyI As (shOut S4 (dSw T4 D m)), [(ag, .inl (cyI, 6, .inl (g)))], [(ap, .inl (cyI, 20, .inl (p)))], [(aw, .inl (cyI, 20, .inl (w)))], [(aq, .inl (cyI, 20, .inl (q)))], [(a2, .inl (cyI, 20, .inl (lsG D.2.2.2.2.2.1 (M ^^^ 2 ^ m) p (w2F w D.2.2.2.2.2.1 m) f5)))]]) H := hP
                        have hD : va_D A9 (cat [[(h, .inr (5, [.ref (Ad 0), .ref (At 0), .ref (As 0), .ref (Ac 0), .ref (L 6 0)]))], dyW cyI Ad D, dyW cyI At (dSw T4 D m), shW cyI As (shOut S4 (dSw T4 D m)), [(ag, .inl (cyI, 6, .inl (g)))], [(ap, .inl (cyI, 20, .inl (p)))], [(aw, .inl (cyI, 20, .inl (w)))], [(aq, .inl (cyI, 20, .inl (q)))], [(a2, .inl (cyI, 20, .inl (lsG D.2.2.2.2.2.1 (M ^^^ 2 ^ m) p (w2F w D.2.2.2.2.2.1 m) f5)))]]) := hD
                        refine W.cs (cells' := 3 + 4 * (m + 1)) (slots' := 32 + 38 * (m + 1)) (by omega) (by omega) ?_
                        exact ih_163 (m + 1, (dfStep D.2.1 D.2.2.1 D.2.2.2.2.2.1 m (mo, le)).1, (dfStep D.2.1 D.2.2.1 D.2.2.2.2.2.1 m (mo, le)).2, lsG D.2.2.2.2.2.1 (M ^^^ 2 ^ m) p (w2F w D.2.2.2.2.2.1 m) f5, shOut S4 (dSw T4 D m), dSw T4 D m) (by show (6 - (m + 1)) < (6 - m); omega) _ _ _ ⟨(show ((shOut S4 (dSw T4 D m)), (dSw T4 D m)) = isM D (m + 1) (isS D D.2.2.2.2.2.1 S) T from by rw [isM_s, ← hST]), (show (m + 1) ≤ 6 from by omega), (show (((dfStep D.2.1 D.2.2.1 D.2.2.2.2.2.1 m (mo, le)).1), ((dfStep D.2.1 D.2.2.1 D.2.2.2.2.2.1 m (mo, le)).2)) = itr (m + 1) (dfStep D.2.1 D.2.2.1 D.2.2.2.2.2.1) (0, 20) from congrArg (dfStep D.2.1 D.2.2.1 D.2.2.2.2.2.1 m) he), (show ((dfStep D.2.1 D.2.2.1 D.2.2.2.2.2.1 m (mo, le)).1) ≤ 20 ∧ ((dfStep D.2.1 D.2.2.1 D.2.2.2.2.2.1 m (mo, le)).2) ≤ 20 from df_bd hmle hsz hn), hP, hD, hS, lv_sub hl [0, 4, 5, 9, 10, 11, 12, 13, 14, 15] rfl⟩
                      · exact absurd (sw_res hR (by omega)) c_398
                    · have c_351 : ¬ (D.2.2.2.2.2.1) ≤ (i) := fun h9 => c_351 ((nI_leI (a := D.2.2.2.2.2.1) (b := i) (by omega) (by omega)).mpr h9)
                      refine lv_aload hx hb dL_isSo_354 (lv_at hl 1 rfl) ?_
                      refine lv_iload hx hb dL_isSo_356 (lv_at hl 0 rfl) ?_
                      refine W_join (pc2 := 375) (v := .int (if w i = nI m then -1 else w i)) (l2 := ls) (rest := [.int (nI (i)), .ref (a320)]) ?_ (fun j_375 => ?_)
                      · refine r_ist (k := i) (n := 20) (f := itr i (fun j f => upd f j (if w j = nI m then -1 else w j)) (fun _ => 0)) hx hb hK hP hD hS 42 0 rfl rfl (by omega) (by omega) rfl dL_isSo_375 (fun H locs hP hD hS => ?_)
                        have hP : va_P G vwCl (cat [[(h, .inr (5, [.ref (Ad 0), .ref (At 0), .ref (As 0), .ref (Ac 0), .ref (L 6 0)]))], dyW cyI Ad D, dyW cyI At T4, shW cyI As S4, [(ag, .inl (cyI, 6, .inl (g)))], [(ap, .inl (cyI, 20, .inl (p)))], [(aw, .inl (cyI, 20, .inl (w)))], [(aq, .inl (cyI, 20, .inl (q)))], [(a2, .inl (cyI, 20, .inl (f5)))], [(a314, .inl (cyI, 6, .inl (upd (upd (fun _ => 0) 0 (nI (D.2.2.2.2.2.1))) 5 (nI (M ^^^ 2 ^ m)))))], [(a320, .inl (cyI, 20, .inl (upd (itr i (fun j f => upd f j (if w j = nI m then -1 else w j)) (fun _ => 0)) i (if w i = nI m then -1 else w i))))]]) H := hP
                        have hD : va_D A9 (cat [[(h, .inr (5, [.ref (Ad 0), .ref (At 0), .ref (As 0), .ref (Ac 0), .ref (L 6 0)]))], dyW cyI Ad D, dyW cyI At T4, shW cyI As S4, [(ag, .inl (cyI, 6, .inl (g)))], [(ap, .inl (cyI, 20, .inl (p)))], [(aw, .inl (cyI, 20, .inl (w)))], [(aq, .inl (cyI, 20, .inl (q)))], [(a2, .inl (cyI, 20, .inl (f5)))], [(a314, .inl (cyI, 6, .inl (upd (upd (fun _ => 0) 0 (nI (D.2.2.2.2.2.1))) 5 (nI (M ^^^ 2 ^ m)))))], [(a320, .inl (cyI, 20, .inl (upd (itr i (fun j f => upd f j (if w j = nI m then -1 else w j)) (fun _ => 0)) i (if w i = nI m then -1 else w i))))]]) := hD
                        refine lv_iinc (v := nI (i + 1)) (lv' := [(15, .int (nI (i + 1))), (14, .ref (a320)), (13, .ref (a314)), (8, .int (nI ((dfStep D.2.1 D.2.2.1 D.2.2.2.2.2.1 m (mo, le)).1))), (7, .int (nI ((dfStep D.2.1 D.2.2.1 D.2.2.2.2.2.1 m (mo, le)).2))), (12, .int (nI (rSz D.2.1 D.2.2.2.2.2.1 (nI m)))), (11, .int (nI (bt M m))), (10, .int (rLd D.1 D.2.1 D.2.2.2.2.2.1 (nI m))), (9, .int (nI (m))), (6, .int (lsR D.2.2.2.2.2.1 M p w (fun _ => 0))), (5, .ref (a2)), (0, .ref (h)), (1, .ref (ag)), (2, .ref (ap)), (3, .ref (aw)), (4, .ref (aq))]) hx hb dL_isSo_376 hl (k := 0) rfl (nI_add _ _) (by decide) rfl (fun ls hl => ?_)
                        refine lv_goto (tgt := 346) hx hb dL_isSo_379 (by decide) ?_
                        exact ih_346 (i + 1) (by show (D.2.2.2.2.2.1 - (i + 1)) < (D.2.2.2.2.2.1 - i); omega) _ _ _ ⟨(show (i + 1) ≤ D.2.2.2.2.2.1 from by omega), hP, hD, hS, lv_sub hl [0, 1, 2, 3, 4, 5, 6, 7, 8, 9, 10, 11, 12, 13, 14, 15] rfl⟩
                      · refine lv_aload_n hx hb dL_isSo_358 rfl (lv_at hl 14 rfl) ?_
                        refine lv_iload hx hb dL_isSo_359 (lv_at hl 0 rfl) ?_
                        refine r_ild (k := i) (n := 20) (f := w) hx hb hK hP 38 0 rfl rfl (by omega) (by omega) rfl dL_isSo_361 ?_
                        refine lv_iload hx hb dL_isSo_362 (lv_at hl 8 rfl) ?_
                        refine lv_icmp_ne (tgt := 371) hx hb dL_isSo_364 (by decide) (fun c_364 => ?_) (fun c_364 => ?_)
                        · refine lv_aload_n hx hb dL_isSo_371 rfl (lv_at hl 14 rfl) ?_
                          refine lv_iload hx hb dL_isSo_372 (lv_at hl 0 rfl) ?_
                          refine r_ild (k := i) (n := 20) (f := w) hx hb hK hP 38 0 rfl rfl (by omega) (by omega) rfl dL_isSo_374 ?_
                          refine top_i (x' := if w i = nI m then -1 else w i) (by first | rw [if_pos c_364] | rw [if_neg c_364]) ?_
                          exact j_375
                        · refine lv_iconst (v := (-1 : Int32)) hx hb dL_isSo_367 (by decide) ?_
                          refine lv_goto (tgt := 375) hx hb dL_isSo_368 (by decide) ?_
                          refine top_i (x' := if w i = nI m then -1 else w i) (by first | rw [if_pos c_364] | rw [if_neg c_364]) ?_
                          exact j_375
                  · refine lv_iload hx hb dL_isSo_296 (lv_at hl 1 rfl) ?_
                    refine lv_iload hx hb dL_isSo_298 (lv_at hl 5 rfl) ?_
                    refine lv_icmp_le (tgt := 308) hx hb dL_isSo_300 (by decide) (fun c_300 => ?_) (fun c_300 => ?_)
                    · have c_300 : (rSz D.2.1 D.2.2.2.2.2.1 (nI m)) ≤ (mo) := (nI_leI (a := rSz D.2.1 D.2.2.2.2.2.1 (nI m)) (b := mo) (by omega) (by omega)).mp c_300
                      refine lv_iload hx hb dL_isSo_308 (lv_at hl 5 rfl) ?_
                      refine top_i (x' := nI ((dfStep D.2.1 D.2.2.1 D.2.2.2.2.2.1 m (mo, le)).1)) (congrArg nI (by rw [df_1 hR (show m < 6 by omega)]; first | rw [if_pos c_300] | rw [if_neg c_300])) ?_
                      exact j_310
                    · have c_300 : ¬ (rSz D.2.1 D.2.2.2.2.2.1 (nI m)) ≤ (mo) := fun h9 => c_300 ((nI_leI (a := rSz D.2.1 D.2.2.2.2.2.1 (nI m)) (b := mo) (by omega) (by omega)).mpr h9)
                      refine lv_iload hx hb dL_isSo_303 (lv_at hl 1 rfl) ?_
                      refine lv_goto (tgt := 310) hx hb dL_isSo_305 (by decide) ?_
                      refine top_i (x' := nI ((dfStep D.2.1 D.2.2.1 D.2.2.2.2.2.1 m (mo, le)).1)) (congrArg nI (by rw [df_1 hR (show m < 6 by omega)]; first | rw [if_pos c_300] | rw [if_neg c_300])) ?_
                      exact j_310
                · refine lv_iload hx hb dL_isSo_275 (lv_at hl 1 rfl) ?_
                  refine lv_if_eq (tgt := 292) hx hb dL_isSo_277 (by decide) (fun c_277 => ?_) (fun c_277 => ?_)
                  · have c_277 : (bt M m) = (0) := (nI_eq (a := bt M m) (b := 0) (by omega) (by omega)).mp c_277
                    refine lv_iload hx hb dL_isSo_292 (lv_at hl 5 rfl) ?_
                    refine top_i (x' := nI ((dfStep D.2.1 D.2.2.1 D.2.2.2.2.2.1 m (mo, le)).2)) (congrArg nI (by rw [df_2 hR (show m < 6 by omega)]; first | rw [if_pos c_277] | rw [if_neg c_277, if_pos c_284] | rw [if_neg c_277, if_neg c_284])) ?_
                    exact j_294
                  · have c_277 : ¬ (bt M m) = (0) := fun h9 => c_277 ((nI_eq (a := bt M m) (b := 0) (by omega) (by omega)).mpr h9)
                    refine lv_iload hx hb dL_isSo_280 (lv_at hl 0 rfl) ?_
                    refine lv_iload hx hb dL_isSo_282 (lv_at hl 5 rfl) ?_
                    refine lv_icmp_ge (tgt := 292) hx hb dL_isSo_284 (by decide) (fun c_284 => ?_) (fun c_284 => ?_)
                    · have c_284 : (le) ≤ (rSz D.2.1 D.2.2.2.2.2.1 (nI m)) := (nI_leI (a := le) (b := rSz D.2.1 D.2.2.2.2.2.1 (nI m)) (by omega) (by omega)).mp c_284
                      refine lv_iload hx hb dL_isSo_292 (lv_at hl 5 rfl) ?_
                      refine top_i (x' := nI ((dfStep D.2.1 D.2.2.1 D.2.2.2.2.2.1 m (mo, le)).2)) (congrArg nI (by rw [df_2 hR (show m < 6 by omega)]; first | rw [if_pos c_277] | rw [if_neg c_277, if_pos c_284] | rw [if_neg c_277, if_neg c_284])) ?_
                      exact j_294
                    · have c_284 : ¬ (le) ≤ (rSz D.2.1 D.2.2.2.2.2.1 (nI m)) := fun h9 => c_284 ((nI_leI (a := le) (b := rSz D.2.1 D.2.2.2.2.2.1 (nI m)) (by omega) (by omega)).mpr h9)
                      refine lv_iload hx hb dL_isSo_287 (lv_at hl 0 rfl) ?_
                      refine lv_goto (tgt := 294) hx hb dL_isSo_289 (by decide) ?_
                      refine top_i (x' := nI ((dfStep D.2.1 D.2.2.1 D.2.2.2.2.2.1 m (mo, le)).2)) (congrArg nI (by rw [df_2 hR (show m < 6 by omega)]; first | rw [if_pos c_277] | rw [if_neg c_277, if_pos c_284] | rw [if_neg c_277, if_neg c_284])) ?_
                      exact j_294
              · exact absurd rfl c_270
        · refine lv_aload_n hx hb dL_isSo_212 rfl (lv_at hl 8 rfl) ?_
          refine lv_iconst (v := (5 : Int32)) hx hb dL_isSo_213 (by decide) ?_
          refine r_ild (k := 5) (n := 6) (f := g) hx hb hK hP 36 0 rfl rfl (by omega) (by omega) rfl dL_isSo_214 ?_
          refine top_i (x' := nI (M)) (hg5) ?_
          refine lv_iload hx hb dL_isSo_215 (lv_at hl 2 rfl) ?_
          refine lv_ishr hx hb dL_isSo_217 ?_
          refine lv_iconst (v := (1 : Int32)) hx hb dL_isSo_218 (by decide) ?_
          refine lv_iand hx hb dL_isSo_219 ?_
          refine top_i (x' := nI (bt M m)) (bt_all M (by omega) m (by omega)) ?_
          refine lv_iconst (v := (1 : Int32)) hx hb dL_isSo_220 (by decide) ?_
          refine lv_icmp_ne (tgt := 228) hx hb dL_isSo_221 (by decide) (fun c_221 => ?_) (fun c_221 => ?_)
          · have c_221 : ¬ (bt M m) = (1) := fun h9 => c_221 ((nI_eq (a := bt M m) (b := 1) (by omega) (by omega)).mpr h9)
            refine lv_iconst (v := (0 : Int32)) hx hb dL_isSo_228 (by decide) ?_
            refine top_i (x' := nI (bt M m)) (by first | (rw [c_221]; exact nI_01.2.symm) | (rw [show bt M m = 0 by omega]; exact nI_01.1.symm)) ?_
            exact j_229
          · have c_221 : (bt M m) = (1) := (nI_eq (a := bt M m) (b := 1) (by omega) (by omega)).mp c_221
            refine lv_iconst (v := (1 : Int32)) hx hb dL_isSo_224 (by decide) ?_
            refine lv_goto (tgt := 229) hx hb dL_isSo_225 (by decide) ?_
            refine top_i (x' := nI (bt M m)) (by first | (rw [c_221]; exact nI_01.2.symm) | (rw [show bt M m = 0 by omega]; exact nI_01.1.symm)) ?_
            exact j_229
      · have c_181 : ¬ (D.2.2.2.2.2.1) ≤ (i) := fun h9 => c_181 ((nI_leI (a := D.2.2.2.2.2.1) (b := i) (by omega) (by omega)).mpr h9)
        refine lv_iload hx hb dL_isSo_184 (lv_at hl 1 rfl) ?_
        refine lv_aload_n hx hb dL_isSo_186 rfl (lv_at hl 10 rfl) ?_
        refine lv_iload hx hb dL_isSo_187 (lv_at hl 0 rfl) ?_
        refine r_ild (k := i) (n := 20) (f := w) hx hb hK hP 38 0 rfl rfl (by omega) (by omega) rfl dL_isSo_189 ?_
        refine lv_iload hx hb dL_isSo_190 (lv_at hl 2 rfl) ?_
        refine lv_icmp_ne (tgt := 202) hx hb dL_isSo_192 (by decide) (fun c_192 => ?_) (fun c_192 => ?_)
        · refine lv_iconst (v := (0 : Int32)) hx hb dL_isSo_202 (by decide) ?_
          refine lv_iadd hx hb dL_isSo_203 ?_
          refine lv_istore (lv' := [(10, .int (x + ((0 : Int32)))), (11, .int (nI (i))), (9, .int (nI (m))), (8, .int (nI (mo))), (7, .int (nI (le))), (6, .int (lsR D.2.2.2.2.2.1 M p w (fun _ => 0))), (5, .ref (a2)), (0, .ref (h)), (1, .ref (ag)), (2, .ref (ap)), (3, .ref (aw)), (4, .ref (aq))]) hx hb dL_isSo_204 hl (by decide) rfl (fun ls hl => ?_)
          refine lv_iinc (v := nI (i + 1)) (lv' := [(11, .int (nI (i + 1))), (10, .int (x + ((0 : Int32)))), (9, .int (nI (m))), (8, .int (nI (mo))), (7, .int (nI (le))), (6, .int (lsR D.2.2.2.2.2.1 M p w (fun _ => 0))), (5, .ref (a2)), (0, .ref (h)), (1, .ref (ag)), (2, .ref (ap)), (3, .ref (aw)), (4, .ref (aq))]) hx hb dL_isSo_206 hl (k := 1) rfl (nI_add _ _) (by decide) rfl (fun ls hl => ?_)
          refine lv_goto (tgt := 176) hx hb dL_isSo_209 (by decide) ?_
          exact ih_176 (i + 1, x + ((0 : Int32))) (by show (D.2.2.2.2.2.1 - (i + 1)) < (D.2.2.2.2.2.1 - i); omega) _ _ _ ⟨(show (i + 1) ≤ D.2.2.2.2.2.1 from by omega), (show (x + ((0 : Int32))) = itr (i + 1) (ldStep p w (nI m)) 0 from by show _ = ldStep p w (nI m) i (itr i _ _); rw [← hx9]; simp [ldStep, c_31, c_167, c_181, c_192]), hP, hD, hS, lv_sub hl [0, 1, 2, 3, 4, 5, 6, 7, 8, 9, 10, 11] rfl⟩
        · refine lv_aload_n hx hb dL_isSo_195 rfl (lv_at hl 9 rfl) ?_
          refine lv_iload hx hb dL_isSo_196 (lv_at hl 0 rfl) ?_
          refine r_ild (k := i) (n := 20) (f := p) hx hb hK hP 37 0 rfl rfl (by omega) (by omega) rfl dL_isSo_198 ?_
          refine lv_goto (tgt := 203) hx hb dL_isSo_199 (by decide) ?_
          refine lv_iadd hx hb dL_isSo_203 ?_
          refine lv_istore (lv' := [(10, .int (x + (p i))), (11, .int (nI (i))), (9, .int (nI (m))), (8, .int (nI (mo))), (7, .int (nI (le))), (6, .int (lsR D.2.2.2.2.2.1 M p w (fun _ => 0))), (5, .ref (a2)), (0, .ref (h)), (1, .ref (ag)), (2, .ref (ap)), (3, .ref (aw)), (4, .ref (aq))]) hx hb dL_isSo_204 hl (by decide) rfl (fun ls hl => ?_)
          refine lv_iinc (v := nI (i + 1)) (lv' := [(11, .int (nI (i + 1))), (10, .int (x + (p i))), (9, .int (nI (m))), (8, .int (nI (mo))), (7, .int (nI (le))), (6, .int (lsR D.2.2.2.2.2.1 M p w (fun _ => 0))), (5, .ref (a2)), (0, .ref (h)), (1, .ref (ag)), (2, .ref (ap)), (3, .ref (aw)), (4, .ref (aq))]) hx hb dL_isSo_206 hl (k := 1) rfl (nI_add _ _) (by decide) rfl (fun ls hl => ?_)
          refine lv_goto (tgt := 176) hx hb dL_isSo_209 (by decide) ?_
          exact ih_176 (i + 1, x + (p i)) (by show (D.2.2.2.2.2.1 - (i + 1)) < (D.2.2.2.2.2.1 - i); omega) _ _ _ ⟨(show (i + 1) ≤ D.2.2.2.2.2.1 from by omega), (show (x + (p i)) = itr (i + 1) (ldStep p w (nI m)) 0 from by show _ = ldStep p w (nI m) i (itr i _ _); rw [← hx9]; simp [ldStep, c_31, c_167, c_181, c_192]), hP, hD, hS, lv_sub hl [0, 1, 2, 3, 4, 5, 6, 7, 8, 9, 10, 11] rfl⟩
  · have c_31 : ¬ (D.2.2.2.2.2.1) ≤ (i) := fun h9 => c_31 ((nI_leI (a := D.2.2.2.2.2.1) (b := i) (by omega) (by omega)).mpr h9)
    refine W_join (pc2 := 72) (v := .int (rsn (shOut S2 D) D i)) (l2 := ls) (rest := []) ?_ (fun j_72 => ?_)
    · refine lv_istore (lv' := [(10, .int (rsn (shOut S2 D) D i)), (9, .int (nI (i))), (8, .int ((0 : Int32))), (7, .int ((20 : Int32))), (6, .int (lsR D.2.2.2.2.2.1 M p w (fun _ => 0))), (5, .ref (a2)), (0, .ref (h)), (1, .ref (ag)), (2, .ref (ap)), (3, .ref (aw)), (4, .ref (aq))]) hx hb dL_isSo_72 hl (by decide) rfl (fun ls hl => ?_)
      refine lv_aload_n hx hb dL_isSo_74 rfl (lv_at hl 6 rfl) ?_
      refine lv_iload hx hb dL_isSo_75 (lv_at hl 1 rfl) ?_
      refine gVi (gs := [[(h, .inr (5, [.ref (Ad 0), .ref (At 0), .ref (As 0), .ref (Ac 0), .ref (L 6 0)]))], dyW cyI Ad D, dyW cyI At T, shW cyI As S1, [(ag, .inl (cyI, 6, .inl (g)))], [(ap, .inl (cyI, 20, .inl (p)))], [(aw, .inl (cyI, 20, .inl (w)))], [(aq, .inl (cyI, 20, .inl (q)))], [(a2, .inl (cyI, 20, .inl (lsG D.2.2.2.2.2.1 M p w (fun _ => 0))))]]) (As := [.int (nI (i))]) (rest := []) ⟨hx, hb, hml, hown, hts⟩ (c_X5_pints l G cyI cyO h Ad At As Ac L D (by omega) i (by omega)) (cwV 1 hts gL_isSo_X5_pints rfl rfl rfl (by decide +kernel) ⟨Nat.le_of_ble_eq_true rfl, Nat.le_of_ble_eq_true rfl⟩) hK hP hD hS hA [0, 1] rfl rfl (rfl : (2 : Nat) = 2) 0 5 rfl rfl rfl hl.1 rfl (Nat.le_of_ble_eq_true rfl) dL_isSo_77 ⟨Nat.le_of_ble_eq_true rfl, Nat.le_of_ble_eq_true rfl⟩ (fun H locs hP hD hS => ?_)
      have hP : va_P G vwCl (cat [[(h, .inr (5, [.ref (Ad 0), .ref (At 0), .ref (As 0), .ref (Ac 0), .ref (L 6 0)]))], dyW cyI Ad D, dyW cyI At T, shW cyI As S1, [(ag, .inl (cyI, 6, .inl (g)))], [(ap, .inl (cyI, 20, .inl (p)))], [(aw, .inl (cyI, 20, .inl (w)))], [(aq, .inl (cyI, 20, .inl (q)))], [(a2, .inl (cyI, 20, .inl (lsG D.2.2.2.2.2.1 M p w (fun _ => 0))))]]) H := hP
      have hD : va_D A9 (cat [[(h, .inr (5, [.ref (Ad 0), .ref (At 0), .ref (As 0), .ref (Ac 0), .ref (L 6 0)]))], dyW cyI Ad D, dyW cyI At T, shW cyI As S1, [(ag, .inl (cyI, 6, .inl (g)))], [(ap, .inl (cyI, 20, .inl (p)))], [(aw, .inl (cyI, 20, .inl (w)))], [(aq, .inl (cyI, 20, .inl (q)))], [(a2, .inl (cyI, 20, .inl (lsG D.2.2.2.2.2.1 M p w (fun _ => 0))))]]) := hD
      refine lv_aload_n hx hb dL_isSo_80 rfl (lv_at hl 8 rfl) ?_
      refine lv_iload hx hb dL_isSo_81 (lv_at hl 1 rfl) ?_
      refine r_ild (k := i) (n := 20) (f := p) hx hb hK hP 37 0 rfl rfl (by omega) (by omega) rfl dL_isSo_83 ?_
      refine top_i (x' := D.1 i) ((hPO i (by omega)).1) ?_
      refine lv_icmp_ne (tgt := 152) hx hb dL_isSo_84 (by decide) (fun c_84 => ?_) (fun c_84 => ?_)
      · exact absurd rfl c_84
      · refine lv_aload_n hx hb dL_isSo_87 rfl (lv_at hl 6 rfl) ?_
        refine lv_iload hx hb dL_isSo_88 (lv_at hl 1 rfl) ?_
        refine gVi (gs := [[(h, .inr (5, [.ref (Ad 0), .ref (At 0), .ref (As 0), .ref (Ac 0), .ref (L 6 0)]))], dyW cyI Ad D, dyW cyI At T, shW cyI As S1, [(ag, .inl (cyI, 6, .inl (g)))], [(ap, .inl (cyI, 20, .inl (p)))], [(aw, .inl (cyI, 20, .inl (w)))], [(aq, .inl (cyI, 20, .inl (q)))], [(a2, .inl (cyI, 20, .inl (lsG D.2.2.2.2.2.1 M p w (fun _ => 0))))]]) (As := [.int (nI (i))]) (rest := []) ⟨hx, hb, hml, hown, hts⟩ (c_X5_owner l G cyI cyO h Ad At As Ac L D (by omega) i (by omega)) (cwV 1 hts gL_isSo_X5_owner rfl rfl rfl (by decide +kernel) ⟨Nat.le_of_ble_eq_true rfl, Nat.le_of_ble_eq_true rfl⟩) hK hP hD hS hA [0, 1] rfl rfl (rfl : (2 : Nat) = 2) 0 5 rfl rfl rfl hl.1 rfl (Nat.le_of_ble_eq_true rfl) dL_isSo_90 ⟨Nat.le_of_ble_eq_true rfl, Nat.le_of_ble_eq_true rfl⟩ (fun H locs hP hD hS => ?_)
        have hP : va_P G vwCl (cat [[(h, .inr (5, [.ref (Ad 0), .ref (At 0), .ref (As 0), .ref (Ac 0), .ref (L 6 0)]))], dyW cyI Ad D, dyW cyI At T, shW cyI As S1, [(ag, .inl (cyI, 6, .inl (g)))], [(ap, .inl (cyI, 20, .inl (p)))], [(aw, .inl (cyI, 20, .inl (w)))], [(aq, .inl (cyI, 20, .inl (q)))], [(a2, .inl (cyI, 20, .inl (lsG D.2.2.2.2.2.1 M p w (fun _ => 0))))]]) H := hP
        have hD : va_D A9 (cat [[(h, .inr (5, [.ref (Ad 0), .ref (At 0), .ref (As 0), .ref (Ac 0), .ref (L 6 0)]))], dyW cyI Ad D, dyW cyI At T, shW cyI As S1, [(ag, .inl (cyI, 6, .inl (g)))], [(ap, .inl (cyI, 20, .inl (p)))], [(aw, .inl (cyI, 20, .inl (w)))], [(aq, .inl (cyI, 20, .inl (q)))], [(a2, .inl (cyI, 20, .inl (lsG D.2.2.2.2.2.1 M p w (fun _ => 0))))]]) := hD
        refine lv_aload_n hx hb dL_isSo_93 rfl (lv_at hl 9 rfl) ?_
        refine lv_iload hx hb dL_isSo_94 (lv_at hl 1 rfl) ?_
        refine r_ild (k := i) (n := 20) (f := w) hx hb hK hP 38 0 rfl rfl (by omega) (by omega) rfl dL_isSo_96 ?_
        refine top_i (x' := D.2.1 i) ((hPO i (by omega)).2) ?_
        refine lv_icmp_ne (tgt := 152) hx hb dL_isSo_97 (by decide) (fun c_97 => ?_) (fun c_97 => ?_)
        · exact absurd rfl c_97
        · refine lv_aload_n hx hb dL_isSo_100 rfl (lv_at hl 6 rfl) ?_
          refine lv_iload hx hb dL_isSo_101 (lv_at hl 1 rfl) ?_
          refine gVi (gs := [[(h, .inr (5, [.ref (Ad 0), .ref (At 0), .ref (As 0), .ref (Ac 0), .ref (L 6 0)]))], dyW cyI Ad D, dyW cyI At T, shW cyI As S1, [(ag, .inl (cyI, 6, .inl (g)))], [(ap, .inl (cyI, 20, .inl (p)))], [(aw, .inl (cyI, 20, .inl (w)))], [(aq, .inl (cyI, 20, .inl (q)))], [(a2, .inl (cyI, 20, .inl (lsG D.2.2.2.2.2.1 M p w (fun _ => 0))))]]) (As := [.int (nI (i))]) (rest := []) ⟨hx, hb, hml, hown, hts⟩ (c_X5_planned l G cyI cyO h Ad At As Ac L D (by omega) i (by omega)) (cwV 1 hts gL_isSo_X5_planned rfl rfl rfl (by decide +kernel) ⟨Nat.le_of_ble_eq_true rfl, Nat.le_of_ble_eq_true rfl⟩) hK hP hD hS hA [0, 1] rfl rfl (rfl : (2 : Nat) = 2) 0 5 rfl rfl rfl hl.1 rfl (Nat.le_of_ble_eq_true rfl) dL_isSo_103 ⟨Nat.le_of_ble_eq_true rfl, Nat.le_of_ble_eq_true rfl⟩ (fun H locs hP hD hS => ?_)
          have hP : va_P G vwCl (cat [[(h, .inr (5, [.ref (Ad 0), .ref (At 0), .ref (As 0), .ref (Ac 0), .ref (L 6 0)]))], dyW cyI Ad D, dyW cyI At T, shW cyI As S1, [(ag, .inl (cyI, 6, .inl (g)))], [(ap, .inl (cyI, 20, .inl (p)))], [(aw, .inl (cyI, 20, .inl (w)))], [(aq, .inl (cyI, 20, .inl (q)))], [(a2, .inl (cyI, 20, .inl (lsG D.2.2.2.2.2.1 M p w (fun _ => 0))))]]) H := hP
          have hD : va_D A9 (cat [[(h, .inr (5, [.ref (Ad 0), .ref (At 0), .ref (As 0), .ref (Ac 0), .ref (L 6 0)]))], dyW cyI Ad D, dyW cyI At T, shW cyI As S1, [(ag, .inl (cyI, 6, .inl (g)))], [(ap, .inl (cyI, 20, .inl (p)))], [(aw, .inl (cyI, 20, .inl (w)))], [(aq, .inl (cyI, 20, .inl (q)))], [(a2, .inl (cyI, 20, .inl (lsG D.2.2.2.2.2.1 M p w (fun _ => 0))))]]) := hD
          refine W_join (pc2 := 124) (v := .int (dPlan D i)) (l2 := ls) (rest := [.int (dPlan D i)]) ?_ (fun j_124 => ?_)
          · refine lv_icmp_ne (tgt := 152) hx hb dL_isSo_124 (by decide) (fun c_124 => ?_) (fun c_124 => ?_)
            · exact absurd rfl c_124
            · refine lv_aload_n hx hb dL_isSo_127 rfl (lv_at hl 6 rfl) ?_
              refine lv_iload hx hb dL_isSo_128 (lv_at hl 1 rfl) ?_
              refine gVi (gs := [[(h, .inr (5, [.ref (Ad 0), .ref (At 0), .ref (As 0), .ref (Ac 0), .ref (L 6 0)]))], dyW cyI Ad D, dyW cyI At T, shW cyI As S1, [(ag, .inl (cyI, 6, .inl (g)))], [(ap, .inl (cyI, 20, .inl (p)))], [(aw, .inl (cyI, 20, .inl (w)))], [(aq, .inl (cyI, 20, .inl (q)))], [(a2, .inl (cyI, 20, .inl (lsG D.2.2.2.2.2.1 M p w (fun _ => 0))))]]) (As := [.int (nI (i))]) (rest := []) ⟨hx, hb, hml, hown, hts⟩ (c_X5_ifPlanned l G cyI cyO h Ad At As Ac L S1 D (by omega) i (by omega)) (cwV 1 hts gL_isSo_X5_ifPlanned rfl rfl rfl (by decide +kernel) ⟨Nat.le_of_ble_eq_true rfl, Nat.le_of_ble_eq_true rfl⟩) hK hP hD hS hA [0, 3, 1] rfl rfl (rfl : (3 : Nat) = 3) 0 5 rfl rfl rfl hl.1 rfl (Nat.le_of_ble_eq_true rfl) dL_isSo_130 ⟨Nat.le_of_ble_eq_true rfl, Nat.le_of_ble_eq_true rfl⟩ (fun H locs hP hD hS => ?_)
              have hP : va_P G vwCl (cat [[(h, .inr (5, [.ref (Ad 0), .ref (At 0), .ref (As 0), .ref (Ac 0), .ref (L 6 0)]))], dyW cyI Ad D, dyW cyI At T, shW cyI As (shOut S1 D), [(ag, .inl (cyI, 6, .inl (g)))], [(ap, .inl (cyI, 20, .inl (p)))], [(aw, .inl (cyI, 20, .inl (w)))], [(aq, .inl (cyI, 20, .inl (q)))], [(a2, .inl (cyI, 20, .inl (lsG D.2.2.2.2.2.1 M p w (fun _ => 0))))]]) H := hP
              have hD : va_D A9 (cat [[(h, .inr (5, [.ref (Ad 0), .ref (At 0), .ref (As 0), .ref (Ac 0), .ref (L 6 0)]))], dyW cyI Ad D, dyW cyI At T, shW cyI As (shOut S1 D), [(ag, .inl (cyI, 6, .inl (g)))], [(ap, .inl (cyI, 20, .inl (p)))], [(aw, .inl (cyI, 20, .inl (w)))], [(aq, .inl (cyI, 20, .inl (q)))], [(a2, .inl (cyI, 20, .inl (lsG D.2.2.2.2.2.1 M p w (fun _ => 0))))]]) := hD
              rw [← eS2] at hP hD
              have hP : va_P G vwCl (cat [[(h, .inr (5, [.ref (Ad 0), .ref (At 0), .ref (As 0), .ref (Ac 0), .ref (L 6 0)]))], dyW cyI Ad D, dyW cyI At T, shW cyI As S2, [(ag, .inl (cyI, 6, .inl (g)))], [(ap, .inl (cyI, 20, .inl (p)))], [(aw, .inl (cyI, 20, .inl (w)))], [(aq, .inl (cyI, 20, .inl (q)))], [(a2, .inl (cyI, 20, .inl (lsG D.2.2.2.2.2.1 M p w (fun _ => 0))))]]) H := hP
              have hD : va_D A9 (cat [[(h, .inr (5, [.ref (Ad 0), .ref (At 0), .ref (As 0), .ref (Ac 0), .ref (L 6 0)]))], dyW cyI Ad D, dyW cyI At T, shW cyI As S2, [(ag, .inl (cyI, 6, .inl (g)))], [(ap, .inl (cyI, 20, .inl (p)))], [(aw, .inl (cyI, 20, .inl (w)))], [(aq, .inl (cyI, 20, .inl (q)))], [(a2, .inl (cyI, 20, .inl (lsG D.2.2.2.2.2.1 M p w (fun _ => 0))))]]) := hD
              refine lv_aload hx hb dL_isSo_133 (lv_at hl 5 rfl) ?_
              refine lv_iload hx hb dL_isSo_135 (lv_at hl 1 rfl) ?_
              refine r_ild (k := i) (n := 20) (f := lsG D.2.2.2.2.2.1 M p w (fun _ => 0)) hx hb hK hP 40 0 rfl rfl (by omega) (by omega) rfl dL_isSo_137 ?_
              refine top_i (x' := (shOut S1 D).1 i) (ls_out hLd i (by omega)) ?_
              refine lv_icmp_ne (tgt := 152) hx hb dL_isSo_138 (by decide) (fun c_138 => ?_) (fun c_138 => ?_)
              · exact absurd rfl c_138
              · refine lv_aload_n hx hb dL_isSo_141 rfl (lv_at hl 6 rfl) ?_
                refine lv_iload hx hb dL_isSo_142 (lv_at hl 1 rfl) ?_
                refine gVi (gs := [[(h, .inr (5, [.ref (Ad 0), .ref (At 0), .ref (As 0), .ref (Ac 0), .ref (L 6 0)]))], dyW cyI Ad D, dyW cyI At T, shW cyI As S2, [(ag, .inl (cyI, 6, .inl (g)))], [(ap, .inl (cyI, 20, .inl (p)))], [(aw, .inl (cyI, 20, .inl (w)))], [(aq, .inl (cyI, 20, .inl (q)))], [(a2, .inl (cyI, 20, .inl (lsG D.2.2.2.2.2.1 M p w (fun _ => 0))))]]) (As := [.int (nI (i))]) (rest := []) ⟨hx, hb, hml, hown, hts⟩ (c_X5_reason l G cyI cyO h Ad At As Ac L S2 D (by omega) i (by omega)) (cwV 1 hts gL_isSo_X5_reason rfl rfl rfl (by decide +kernel) ⟨Nat.le_of_ble_eq_true rfl, Nat.le_of_ble_eq_true rfl⟩) hK hP hD hS hA [0, 3, 1] rfl rfl (rfl : (3 : Nat) = 3) 0 5 rfl rfl rfl hl.1 rfl (Nat.le_of_ble_eq_true rfl) dL_isSo_144 ⟨Nat.le_of_ble_eq_true rfl, Nat.le_of_ble_eq_true rfl⟩ (fun H locs hP hD hS => ?_)
                have hP : va_P G vwCl (cat [[(h, .inr (5, [.ref (Ad 0), .ref (At 0), .ref (As 0), .ref (Ac 0), .ref (L 6 0)]))], dyW cyI Ad D, dyW cyI At T, shW cyI As (shOut S2 D), [(ag, .inl (cyI, 6, .inl (g)))], [(ap, .inl (cyI, 20, .inl (p)))], [(aw, .inl (cyI, 20, .inl (w)))], [(aq, .inl (cyI, 20, .inl (q)))], [(a2, .inl (cyI, 20, .inl (lsG D.2.2.2.2.2.1 M p w (fun _ => 0))))]]) H := hP
                have hD : va_D A9 (cat [[(h, .inr (5, [.ref (Ad 0), .ref (At 0), .ref (As 0), .ref (Ac 0), .ref (L 6 0)]))], dyW cyI Ad D, dyW cyI At T, shW cyI As (shOut S2 D), [(ag, .inl (cyI, 6, .inl (g)))], [(ap, .inl (cyI, 20, .inl (p)))], [(aw, .inl (cyI, 20, .inl (w)))], [(aq, .inl (cyI, 20, .inl (q)))], [(a2, .inl (cyI, 20, .inl (lsG D.2.2.2.2.2.1 M p w (fun _ => 0))))]]) := hD
                refine lv_iload hx hb dL_isSo_147 (lv_at hl 0 rfl) ?_
                refine lv_icmp_eq (tgt := 154) hx hb dL_isSo_149 (by decide) (fun c_149 => ?_) (fun c_149 => ?_)
                · refine lv_iinc (v := nI (i + 1)) (lv' := [(9, .int (nI (i + 1))), (10, .int (rsn (shOut S2 D) D i)), (8, .int ((0 : Int32))), (7, .int ((20 : Int32))), (6, .int (lsR D.2.2.2.2.2.1 M p w (fun _ => 0))), (5, .ref (a2)), (0, .ref (h)), (1, .ref (ag)), (2, .ref (ap)), (3, .ref (aw)), (4, .ref (aq))]) hx hb dL_isSo_154 hl (k := 1) rfl (nI_add _ _) (by decide) rfl (fun ls hl => ?_)
                  refine lv_goto (tgt := 26) hx hb dL_isSo_157 (by decide) ?_
                  exact ih_26 (i + 1, shOut S2 D) (by show (D.2.2.2.2.2.1 - (i + 1)) < (D.2.2.2.2.2.1 - i); omega) _ _ _ ⟨(show (i + 1) ≤ D.2.2.2.2.2.1 from by omega), (show (shOut S2 D) = isS D (i + 1) S from by rw [isS_s, ← hS1, eS2]), hP, hD, hS, lv_sub hl [0, 2, 3, 4, 5, 6, 7, 8, 9, 10] rfl⟩
                · exact absurd rfl c_149
          · refine lv_aload_n hx hb dL_isSo_106 rfl (lv_at hl 7 rfl) ?_
            refine lv_iconst (v := (1 : Int32)) hx hb dL_isSo_107 (by decide) ?_
            refine r_ild (k := 1) (n := 6) (f := g) hx hb hK hP 36 0 rfl rfl (by omega) (by omega) rfl dL_isSo_108 ?_
            refine top_i (x' := D.2.2.2.2.2.2.1) (hg1) ?_
            refine lv_if_le (tgt := 120) hx hb dL_isSo_109 (by decide) (fun c_109 => ?_) (fun c_109 => ?_)
            · refine lv_aload_n hx hb dL_isSo_120 rfl (lv_at hl 9 rfl) ?_
              refine lv_iload hx hb dL_isSo_121 (lv_at hl 1 rfl) ?_
              refine r_ild (k := i) (n := 20) (f := w) hx hb hK hP 38 0 rfl rfl (by omega) (by omega) rfl dL_isSo_123 ?_
              refine top_i (x' := dPlan D i) (by rw [plan_law hR (show i < D.2.2.2.2.2.1 by omega)]; first | rw [if_pos c_109] | rw [if_neg c_109]) ?_
              exact j_124
            · refine lv_aload hx hb dL_isSo_112 (lv_at hl 10 rfl) ?_
              refine lv_iload hx hb dL_isSo_114 (lv_at hl 1 rfl) ?_
              refine r_ild (k := i) (n := 20) (f := q) hx hb hK hP 39 0 rfl rfl (by omega) (by omega) rfl dL_isSo_116 ?_
              refine lv_goto (tgt := 124) hx hb dL_isSo_117 (by decide) ?_
              refine top_i (x' := dPlan D i) (by rw [plan_law hR (show i < D.2.2.2.2.2.1 by omega)]; first | rw [if_pos c_109] | rw [if_neg c_109]) ?_
              exact j_124
    · refine lv_aload_n hx hb dL_isSo_34 rfl (lv_at hl 6 rfl) ?_
      refine lv_iconst (v := (5 : Int32)) hx hb dL_isSo_35 (by decide) ?_
      refine r_ild (k := 5) (n := 6) (f := g) hx hb hK hP 36 0 rfl rfl (by omega) (by omega) rfl dL_isSo_36 ?_
      refine top_i (x' := nI (M)) (hg5) ?_
      refine lv_if_ne (tgt := 44) hx hb dL_isSo_37 (by decide) (fun c_37 => ?_) (fun c_37 => ?_)
      · have c_37 : ¬ (M) = (0) := fun h9 => c_37 ((nI_eq (a := M) (b := 0) (by omega) (by omega)).mpr h9)
        refine lv_aload_n hx hb dL_isSo_44 rfl (lv_at hl 8 rfl) ?_
        refine lv_iload hx hb dL_isSo_45 (lv_at hl 0 rfl) ?_
        refine r_ild (k := i) (n := 20) (f := w) hx hb hK hP 38 0 rfl rfl (by omega) (by omega) rfl dL_isSo_47 ?_
        refine lv_if_ge (tgt := 55) hx hb dL_isSo_48 (by decide) (fun c_48 => ?_) (fun c_48 => ?_)
        · refine lv_aload hx hb dL_isSo_55 (lv_at hl 4 rfl) ?_
          refine lv_iload hx hb dL_isSo_57 (lv_at hl 0 rfl) ?_
          refine r_ild (k := i) (n := 20) (f := lsG D.2.2.2.2.2.1 M p w (fun _ => 0)) hx hb hK hP 40 0 rfl rfl (by omega) (by omega) rfl dL_isSo_59 ?_
          refine lv_aload_n hx hb dL_isSo_60 rfl (lv_at hl 8 rfl) ?_
          refine lv_iload hx hb dL_isSo_61 (lv_at hl 0 rfl) ?_
          refine r_ild (k := i) (n := 20) (f := w) hx hb hK hP 38 0 rfl rfl (by omega) (by omega) rfl dL_isSo_63 ?_
          refine lv_icmp_ne (tgt := 71) hx hb dL_isSo_64 (by decide) (fun c_64 => ?_) (fun c_64 => ?_)
          · refine lv_iconst (v := (3 : Int32)) hx hb dL_isSo_71 (by decide) ?_
            refine top_i (x' := rsn (shOut S2 D) D i) (by rw [rsn_law (gl := fun _ => 0) hR (show i < D.2.2.2.2.2.1 by omega)]; first | rw [if_pos c_37] | rw [if_neg c_37, if_pos (i_nge c_48)] | rw [if_neg c_37, if_neg (i_ge c_48), if_pos c_64] | rw [if_neg c_37, if_neg (i_ge c_48), if_neg c_64]) ?_
            exact j_72
          · refine lv_iconst (v := (0 : Int32)) hx hb dL_isSo_67 (by decide) ?_
            refine lv_goto (tgt := 72) hx hb dL_isSo_68 (by decide) ?_
            refine top_i (x' := rsn (shOut S2 D) D i) (by rw [rsn_law (gl := fun _ => 0) hR (show i < D.2.2.2.2.2.1 by omega)]; first | rw [if_pos c_37] | rw [if_neg c_37, if_pos (i_nge c_48)] | rw [if_neg c_37, if_neg (i_ge c_48), if_pos c_64] | rw [if_neg c_37, if_neg (i_ge c_48), if_neg c_64]) ?_
            exact j_72
        · refine lv_iconst (v := (2 : Int32)) hx hb dL_isSo_51 (by decide) ?_
          refine lv_goto (tgt := 72) hx hb dL_isSo_52 (by decide) ?_
          refine top_i (x' := rsn (shOut S2 D) D i) (by rw [rsn_law (gl := fun _ => 0) hR (show i < D.2.2.2.2.2.1 by omega)]; first | rw [if_pos c_37] | rw [if_neg c_37, if_pos (i_nge c_48)] | rw [if_neg c_37, if_neg (i_ge c_48), if_pos c_64] | rw [if_neg c_37, if_neg (i_ge c_48), if_neg c_64]) ?_
          exact j_72
      · have c_37 : (M) = (0) := (nI_eq (a := M) (b := 0) (by omega) (by omega)).mp c_37
        refine lv_iconst (v := (1 : Int32)) hx hb dL_isSo_40 (by decide) ?_
        refine lv_goto (tgt := 72) hx hb dL_isSo_41 (by decide) ?_
        refine top_i (x' := rsn (shOut S2 D) D i) (by rw [rsn_law (gl := fun _ => 0) hR (show i < D.2.2.2.2.2.1 by omega)]; first | rw [if_pos c_37] | rw [if_neg c_37, if_pos (i_nge c_48)] | rw [if_neg c_37, if_neg (i_ge c_48), if_pos c_64] | rw [if_neg c_37, if_neg (i_ge c_48), if_neg c_64]) ?_
        exact j_72

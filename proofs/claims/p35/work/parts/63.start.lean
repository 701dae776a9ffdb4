/-! ===== the law: what its start gives ===== -/
theorem tb {b : Nat} {s : State} (hts : ∀ w ∈ lw_tbl, w.before #[Value.ref b] s = true) (i : Nat) {w : Cond} (h : tables_1[i]? = some w) : w.before #[Value.ref b] s = true := hts w (List.mem_append_right _ (List.mem_of_getElem? h))
theorem start_str {b : Nat} {s : State} {k : Nat} {tx : String} (h1 : (Cond.stringRef RX5 k tx).before #[Value.ref b] s = true) (h2 : (Cond.exactly (.string RX5 k) "java/lang/String").before #[Value.ref b] s = true) : ∃ sa, vk_R RX5 k tx sa s := by
  obtain ⟨a, c, cA, kA, q1, q2, q3, q4, q5, q6, -⟩ := Cond.exactly_spec (args := #[Value.ref b]) (first := s) (o := none) (s := s) (idx := []) (t := .string RX5 k) (cls := "java/lang/String") h2
  exact ⟨a, vk_R.of h1 q1⟩
set_option maxHeartbeats 4000000 in
set_option maxRecDepth 100000 in
theorem start_xs {b : Nat} {s : State} (hts : ∀ w ∈ lw_tbl, w.before #[Value.ref b] s = true) (hgv : (Jvm.Cond.and given_1 narrow_1).before #[Value.ref b] s = true) : XS (fun q : Nat => s.heap.size ≤ q) s s.heap := by
  have hs := flat_of_before _ hgv
  refine ⟨?_, ?_, ?_, ?_, ?_, ?_⟩
  · exact vx_Zqof (tb hts 186 (w := .laysStatic Bundle.tN "UNASSIGNED_STACK" Bundle.steD) (by decide +kernel)) (tb hts 7 (w := .initialized Bundle.tN) (by decide +kernel)) (hs _ (by decide +kernel)) (fun a ha => Nat.not_le.mpr ha)
  · exact vx_Zqof (tb hts 188 (w := .laysStatic Bundle.tN "SUPPRESSED_SENTINEL" Bundle.listD) (by decide +kernel)) (tb hts 7 (w := .initialized Bundle.tN) (by decide +kernel)) (hs _ (by decide +kernel)) (fun a ha => Nat.not_le.mpr ha)
  · intro x hx
    simp only [xDe, List.mem_cons, List.not_mem_nil, or_false] at hx
    rcases hx with rfl | rfl | rfl
    · exact va_Nw.of rfl (tb hts 163 (w := .declares (Bundle.initS "java/lang/RuntimeException")) (by decide +kernel))
    · exact va_Nw.of rfl (tb hts 165 (w := .declares (Bundle.initS "java/lang/Exception")) (by decide +kernel))
    · exact va_Nw.of rfl (tb hts 167 (w := .declares (Bundle.initS Bundle.tN)) (by decide +kernel))
  · intro E hE
    simp only [List.mem_cons, List.not_mem_nil, or_false] at hE
    rcases hE with rfl | rfl | rfl
    · exact va_Nw.of rfl (tb hts 519 (w := .castable xIA xIA) (by decide +kernel))
    · exact va_Nw.of rfl (tb hts 161 (w := .castable xIS xIS) (by decide +kernel))
    · exact va_Nw.of rfl (tb hts 260 (w := .castable xIO xIO) (by decide +kernel))
  · intro q hq
    simp only [xStr, List.mem_cons, List.not_mem_nil, or_false] at hq
    rcases hq with rfl | rfl | rfl | rfl | rfl | rfl | rfl | rfl | rfl | rfl
    · exact start_str (tb hts 626 (w := .stringRef RX5 120 "there is a handover, or nobody is at work") (by decide +kernel)) (hs _ (by decide +kernel))
    · exact start_str (tb hts 644 (w := .stringRef RX5 128 "there is no handover") (by decide +kernel)) (hs _ (by decide +kernel))
    · exact start_str (tb hts 200 (w := .stringRef RX5 207 "no state is saved") (by decide +kernel)) (hs _ (by decide +kernel))
    · exact start_str (tb hts 401 (w := .stringRef RX5 233 "there is no such doorstep") (by decide +kernel)) (hs _ (by decide +kernel))
    · exact start_str (tb hts 267 (w := .stringRef RX5 236 "there is no such milkman") (by decide +kernel)) (hs _ (by decide +kernel))
    · exact start_str (tb hts 526 (w := .stringRef RX5 238 "pints are 1 to 9") (by decide +kernel)) (hs _ (by decide +kernel))
    · exact start_str (tb hts 537 (w := .stringRef RX5 50 "there is a handover, or there are 20 doorsteps") (by decide +kernel)) (hs _ (by decide +kernel))
    · exact start_str (tb hts 562 (w := .stringRef RX5 70 "there is a handover") (by decide +kernel)) (hs _ (by decide +kernel))
    · exact start_str (tb hts 602 (w := .stringRef RX5 85 "there is a handover, or he is at work") (by decide +kernel)) (hs _ (by decide +kernel))
    · exact start_str (tb hts 614 (w := .stringRef RX5 93 "there is a handover, or he is not at work") (by decide +kernel)) (hs _ (by decide +kernel))
  · intro q hq
    simp only [List.mem_cons, List.not_mem_nil, or_false] at hq
    rcases hq with rfl | rfl | rfl
    · exact va_Nc.of (args := #[Value.ref b]) (hs (.not (.castable xIS xIA)) (by decide +kernel))
    · exact va_Nc.of (args := #[Value.ref b]) (hs (.not (.castable xIS xIO)) (by decide +kernel))
    · exact va_Nc.of (args := #[Value.ref b]) (hs (.not (.castable xIA xIO)) (by decide +kernel))
theorem cat1 (w : va_W) : cat [w] = w := List.append_nil w
theorem c_X5_init1 (l : Launch) (G : va_G) (cyI cyO : ClassId) (h0 : Nat) : CN l G (TY cyI cyO) yX5_init wsX5_init rm_X5_init [(RX5, 9, yX1_init, RX5), (RX5, 21, yX4_init, RX5), (RX5, 28, yX0_init, RX5), (RX2, 21, yX1_init, RX5)] true [.ref (h0)] [[(h0, .inr (5, [.null, .null, .null, .null, .null]))]] 106 955 h0
    (fun A => [cat [[(A 0, .inr (5, [.ref (A 1), .ref (A 12), .ref (A 23), .ref (A 36), .ref (A 39)]))], dyW cyI (fun k => A (1 + k)) dy0, dyW cyI (fun k => A (12 + k)) dy0, shW cyI (fun k => A (23 + k)) sh0, ctW cyI (fun k => A (36 + k)) ct0, hiW cyI cyO (hiL (fun k => A (39 + k))) hi0]]) := by
  intro sz
  have h := c_X5_init l G cyI cyO h0 sz
  have e : ∀ (g : (Nat → Nat) → List va_W) (X : Nat → Prop), (fun A => cB G (TY cyI cyO) X [cat (g A)]) = fun A => cB G (TY cyI cyO) X (g A) := fun g X => funext fun A => by unfold cB; rw [cat1]
  rw [e (fun A => [[(A 0, .inr (5, [.ref (A 1), .ref (A 12), .ref (A 23), .ref (A 36), .ref (A 39)]))], dyW cyI (fun k => A (1 + k)) dy0, dyW cyI (fun k => A (12 + k)) dy0, shW cyI (fun k => A (23 + k)) sh0, ctW cyI (fun k => A (36 + k)) ct0, hiW cyI cyO (hiL (fun k => A (39 + k))) hi0])]
  exact h
/-- the start of the law, for a heap in which its words hold -/
theorem start_K {b : Nat} {s : State} (hts : ∀ w ∈ lw_tbl, w.before #[Value.ref b] s = true) : ∃ (G : va_G) (cyI cyO : ClassId), va_K G vwCl (TY cyI cyO) s := by
  obtain ⟨c0, i0, k0⟩ := u_known (C := RX0) (T := TX0) (N := 2) (n := 2) hts inX0 (tb hts 97 (w := .instantiable RX0 2) (by decide +kernel))
  obtain ⟨c1, i1, k1⟩ := u_known (C := RX1) (T := TX1) (N := 10) (n := 10) hts inX1 (tb hts 22 (w := .instantiable RX1 10) (by decide +kernel))
  obtain ⟨c2, i2, k2⟩ := u_known (C := RX2) (T := TX2) (N := 2) (n := 2) hts inX2 (tb hts 112 (w := .instantiable RX2 2) (by decide +kernel))
  obtain ⟨c3, i3, k3⟩ := u_known (C := RX3) (T := TX3) (N := 1) (n := 1) hts inX3 (tb hts 28 (w := .instantiable RX3 1) (by decide +kernel))
  obtain ⟨c4, i4, k4⟩ := u_known (C := RX4) (T := TX4) (N := 6) (n := 6) hts inX4 (tb hts 70 (w := .instantiable RX4 6) (by decide +kernel))
  obtain ⟨c5, i5, k5⟩ := u_known (C := RX5) (T := TX5) (N := 5) (n := 5) hts inX5 (tb hts 14 (w := .instantiable RX5 5) (by decide +kernel))
  obtain ⟨dC, dI, hKc⟩ : ∃ (dC : Nat → ClassId) (dI : Nat → Nat → Nat), ∀ (k : Nat) (q : vw_C), vwCl[k]? = some q → u_Kn s q.1 q.2.1 q.2.2 (dC k) (dI k) := by
    refine ⟨fun k => if k = 0 then c0 else if k = 1 then c1 else if k = 2 then c2 else if k = 3 then c3 else if k = 4 then c4 else c5, fun k => if k = 0 then i0 else if k = 1 then i1 else if k = 2 then i2 else if k = 3 then i3 else if k = 4 then i4 else i5, ?_⟩
    intro k q hq
    match k, hq with
    | 0, hq => cases hq; exact k0
    | 1, hq => cases hq; exact k1
    | 2, hq => cases hq; exact k2
    | 3, hq => cases hq; exact k3
    | 4, hq => cases hq; exact k4
    | 5, hq => cases hq; exact k5
    | k + 6, hq => simp [vwCl] at hq
  obtain ⟨cyI, kI, compI, hI1, hI2, hI3⟩ := Cond.arrayClass_spec (tb hts 37 (w := .arrayClass .int) (by decide +kernel))
  obtain ⟨compO, cyO, kO, hO1, -, hO2, hO3, hO4⟩ := Cond.arrayOver_spec (tb hts 118 (w := .arrayOver (.object RX1)) (by decide +kernel))
  refine ⟨(dC, dI), cyI, cyO, hKc, fun k q hq => ?_⟩
  match k, hq with
  | 0, hq => cases hq; exact ⟨fun n z => ⟨fun k h => (by cases h), kI, hI2, compI, hI3⟩, hI1⟩
  | 1, hq => cases hq; exact ⟨fun n z => ⟨fun k h => (by cases h), kO, hO2, compO, hO3⟩, kO, compO, hO2, hO3, hO1, hO4⟩
  | k + 2, hq => simp at hq
theorem start_E {b : Nat} {s : State} (hts : ∀ w ∈ lw_tbl, w.before #[Value.ref b] s = true) : exE [(RX5, 9, yX1_init, RX5), (RX5, 21, yX4_init, RX5), (RX5, 28, yX0_init, RX5), (RX2, 21, yX1_init, RX5)] true s := by
  refine ⟨fun q hq => ?_, fun _ => va_AO.of (tb hts 118 (w := .arrayOver (.object RX1)) (by decide +kernel))⟩
  simp only [List.mem_cons, List.not_mem_nil, or_false] at hq
  rcases hq with rfl | rfl | rfl | rfl
  · exact va_Nw.of rfl (tb hts 23 (w := .methodLinkNest RX5 9 yX1_init RX5) (by decide +kernel))
  · exact va_Nw.of rfl (tb hts 71 (w := .methodLinkNest RX5 21 yX4_init RX5) (by decide +kernel))
  · exact va_Nw.of rfl (tb hts 98 (w := .methodLinkNest RX5 28 yX0_init RX5) (by decide +kernel))
  · exact va_Nw.of rfl (tb hts 119 (w := .methodLinkNest RX2 21 yX1_init RX5) (by decide +kernel))
theorem ra_0 : RA dy0 0 (fun _ => 0) (fun _ => 0) (fun _ => 0) (fun _ => 0) (fun _ => 0) := by
  refine ⟨⟨by omega, by show 0 ≤ 20; omega, fun m _ => ?_, fun d hd => absurd hd (Nat.not_lt_zero _), fun d hd => absurd hd (Nat.not_lt_zero _), fun d hd => absurd hd (Nat.not_lt_zero _), nI_0.symm, rfl, rfl, rfl, rfl, nI_0.symm, Or.inl rfl, fun h => absurd rfl h⟩, fun h => absurd rfl h⟩
  show (0 : Int32) = nI (bt 0 m)
  unfold bt
  rw [Nat.zero_div]; exact nI_0.symm
set_option maxHeartbeats 4000000 in
set_option maxRecDepth 100000 in
theorem law_begin {p9 : Program} {l : Launch} {e9 : Env} {s9 : State} {m9 : MethodId} {b9 : List Frame} {t9 : Method} {c9 : Code} {A9 : Nat → Prop} {G : va_G} {cyI cyO : ClassId} {b Ln : Nat} {xs : Nat → Int32} {Q : State → Prop} {h : Nat} {Ad At As Ac : Nat → Nat} {ag ap aw aq ar : Nat} {H : Heap} {locs : List Loc} {ls : Array Slot} {L : Nat → Nat → Nat} (hC : LC p9 l s9 m9 c9 A9 G cyI cyO b Ln xs) (hP : va_P G vwCl (cat [[(h, .inr (5, [.ref (Ad 0), .ref (At 0), .ref (As 0), .ref (Ac 0), .ref (L 6 0)]))], dyW cyI Ad (dy0), dyW cyI At (dy0), shW cyI As (sh0), ctW cyI Ac ct0, hiW cyI cyO L (hi0), [(ag, .inl (cyI, 6, .inl (fun _ => 0)))], [(ap, .inl (cyI, 20, .inl (fun _ => 0)))], [(aw, .inl (cyI, 20, .inl (fun _ => 0)))], [(aq, .inl (cyI, 20, .inl (fun _ => 0)))], [(ar, .inl (cyI, 20, .inl (fun _ => 0)))]]) H) (hD : va_D A9 (cat [[(h, .inr (5, [.ref (Ad 0), .ref (At 0), .ref (As 0), .ref (Ac 0), .ref (L 6 0)]))], dyW cyI Ad (dy0), dyW cyI At (dy0), shW cyI As (sh0), ctW cyI Ac ct0, hiW cyI cyO L (hi0), [(ag, .inl (cyI, 6, .inl (fun _ => 0)))], [(ap, .inl (cyI, 20, .inl (fun _ => 0)))], [(aw, .inl (cyI, 20, .inl (fun _ => 0)))], [(aq, .inl (cyI, 20, .inl (fun _ => 0)))], [(ar, .inl (cyI, 20, .inl (fun _ => 0)))]])) (hS : va_S A9 s9.heap H locs)
    (hl : lv_has ls 11 [(6, .ref ar), (5, .ref aq), (4, .ref aw), (3, .ref ap), (2, .ref ag), (1, .ref h), (0, .ref b)])
    (kk : ∀ (H : Heap) (locs : List Loc) (ls : Array Slot), LJ G cyI cyO s9 A9 b h Ad At As Ac ag ap aw aq ar ct0 0 H locs ls → W p9 l e9 room_1 s9 m9 #[Value.ref b] b9 t9 c9 H locs 142 1324 Q (F0 m9 84 ls [])) :
    W p9 l e9 room_1 s9 m9 #[Value.ref b] b9 t9 c9 H locs 112 1046 Q (F0 m9 36 ls []) := by
  obtain ⟨hx, hb, hml, hown, hts, hscr, hbl, hbA, hA, hK, hX, htr, hLn⟩ := hC
  refine lv_aload_n hx hb dL_law_36 rfl (lv_at hl 5 rfl) ?_
  refine lv_aload_n hx hb dL_law_37 rfl (lv_at hl 4 rfl) ?_
  refine lv_aload_n hx hb dL_law_38 rfl (lv_at hl 3 rfl) ?_
  refine lv_aload hx hb dL_law_39 (lv_at hl 2 rfl) ?_
  refine lv_aload hx hb dL_law_41 (lv_at hl 1 rfl) ?_
  refine gSa (gs := [[(h, .inr (5, [.ref (Ad 0), .ref (At 0), .ref (As 0), .ref (Ac 0), .ref (L 6 0)]))], dyW cyI Ad (dy0), dyW cyI At (dy0), shW cyI As (sh0), ctW cyI Ac ct0, hiW cyI cyO L (hi0), [(ag, .inl (cyI, 6, .inl (fun _ => 0)))], [(ap, .inl (cyI, 20, .inl (fun _ => 0)))], [(aw, .inl (cyI, 20, .inl (fun _ => 0)))], [(aq, .inl (cyI, 20, .inl (fun _ => 0)))], [(ar, .inl (cyI, 20, .inl (fun _ => 0)))]]) (As := [.ref h, .ref ag, .ref ap, .ref aw, .ref aq]) (rest := []) ⟨hx, hb, hml, hown, hts⟩ (c_L_isSo l G cyI cyO h Ad At As Ac L ag ap aw aq sh0 dy0 dy0 0 (fun _ => 0) (fun _ => 0) (fun _ => 0) (fun _ => 0) ra_0.1) (va_cwS 5 hts gL_law_L_isSo rfl rfl rfl (by decide +kernel) ⟨Nat.le_of_ble_eq_true rfl, Nat.le_of_ble_eq_true rfl⟩) hK hP hD hS hA [0, 1, 2, 3, 6, 7, 8, 9] rfl rfl (rfl : (8 : Nat) = 8) rfl hl.1 rfl (Nat.le_of_ble_eq_true rfl) dL_law_43 ⟨Nat.le_of_ble_eq_true rfl, Nat.le_of_ble_eq_true rfl⟩ (fun H locs hP hD hS => ?_)
  have hP : va_P G vwCl (cat [[(h, .inr (5, [.ref (Ad 0), .ref (At 0), .ref (As 0), .ref (Ac 0), .ref (L 6 0)]))], dyW cyI Ad (dy0), dyW cyI At ((isM dy0 6 (isS dy0 dy0.2.2.2.2.2.1 sh0) dy0).2), shW cyI As (shOut (isM dy0 6 (isS dy0 dy0.2.2.2.2.2.1 sh0) dy0).1 dy0), ctW cyI Ac ct0, hiW cyI cyO L (hi0), [(ag, .inl (cyI, 6, .inl (fun _ => 0)))], [(ap, .inl (cyI, 20, .inl (fun _ => 0)))], [(aw, .inl (cyI, 20, .inl (fun _ => 0)))], [(aq, .inl (cyI, 20, .inl (fun _ => 0)))], [(ar, .inl (cyI, 20, .inl (fun _ => 0)))]]) H := hP
  have hD : va_D A9 (cat [[(h, .inr (5, [.ref (Ad 0), .ref (At 0), .ref (As 0), .ref (Ac 0), .ref (L 6 0)]))], dyW cyI Ad (dy0), dyW cyI At ((isM dy0 6 (isS dy0 dy0.2.2.2.2.2.1 sh0) dy0).2), shW cyI As (shOut (isM dy0 6 (isS dy0 dy0.2.2.2.2.2.1 sh0) dy0).1 dy0), ctW cyI Ac ct0, hiW cyI cyO L (hi0), [(ag, .inl (cyI, 6, .inl (fun _ => 0)))], [(ap, .inl (cyI, 20, .inl (fun _ => 0)))], [(aw, .inl (cyI, 20, .inl (fun _ => 0)))], [(aq, .inl (cyI, 20, .inl (fun _ => 0)))], [(ar, .inl (cyI, 20, .inl (fun _ => 0)))]]) := hD
  refine lv_if_eq (tgt := 79) hx hb dL_law_46 (by decide) (fun c1 => absurd c1 (by decide)) (fun _ => ?_)
  refine lv_aload_n hx hb dL_law_49 rfl (lv_at hl 5 rfl) ?_
  refine gHi (gs := [[(h, .inr (5, [.ref (Ad 0), .ref (At 0), .ref (As 0), .ref (Ac 0), .ref (L 6 0)]))], dyW cyI Ad (dy0), dyW cyI At ((isM dy0 6 (isS dy0 dy0.2.2.2.2.2.1 sh0) dy0).2), shW cyI As (shOut (isM dy0 6 (isS dy0 dy0.2.2.2.2.2.1 sh0) dy0).1 dy0), ctW cyI Ac ct0, hiW cyI cyO L (hi0), [(ag, .inl (cyI, 6, .inl (fun _ => 0)))], [(ap, .inl (cyI, 20, .inl (fun _ => 0)))], [(aw, .inl (cyI, 20, .inl (fun _ => 0)))], [(aq, .inl (cyI, 20, .inl (fun _ => 0)))], [(ar, .inl (cyI, 20, .inl (fun _ => 0)))]]) (As := [.ref h]) (rest := []) ⟨hx, hb, hml, hown, hts⟩ (t_L_undo_IS l G cyI cyO h Ad At As Ac L hi0 rfl htr) (vx_cwSW 1 hts gL_law_L_undo rfl rfl rfl (by decide +kernel) ⟨Nat.le_of_ble_eq_true rfl, Nat.le_of_ble_eq_true rfl⟩) hK hX hP hD hS hA [0, 5] rfl rfl (rfl : (2 : Nat) = 2) rfl hl.1 rfl (Nat.le_of_ble_eq_true rfl) dL_law_50 ⟨Nat.le_of_ble_eq_true rfl, Nat.le_of_ble_eq_true rfl⟩ (fun H locs hP hD hS => ?_)
  have hP : va_P G vwCl (cat [[(h, .inr (5, [.ref (Ad 0), .ref (At 0), .ref (As 0), .ref (Ac 0), .ref (L 6 0)]))], dyW cyI Ad (dy0), dyW cyI At ((isM dy0 6 (isS dy0 dy0.2.2.2.2.2.1 sh0) dy0).2), shW cyI As (shOut (isM dy0 6 (isS dy0 dy0.2.2.2.2.2.1 sh0) dy0).1 dy0), ctW cyI Ac ct0, hiW cyI cyO L (hi0), [(ag, .inl (cyI, 6, .inl (fun _ => 0)))], [(ap, .inl (cyI, 20, .inl (fun _ => 0)))], [(aw, .inl (cyI, 20, .inl (fun _ => 0)))], [(aq, .inl (cyI, 20, .inl (fun _ => 0)))], [(ar, .inl (cyI, 20, .inl (fun _ => 0)))]]) H := hP
  have hD : va_D A9 (cat [[(h, .inr (5, [.ref (Ad 0), .ref (At 0), .ref (As 0), .ref (Ac 0), .ref (L 6 0)]))], dyW cyI Ad (dy0), dyW cyI At ((isM dy0 6 (isS dy0 dy0.2.2.2.2.2.1 sh0) dy0).2), shW cyI As (shOut (isM dy0 6 (isS dy0 dy0.2.2.2.2.2.1 sh0) dy0).1 dy0), ctW cyI Ac ct0, hiW cyI cyO L (hi0), [(ag, .inl (cyI, 6, .inl (fun _ => 0)))], [(ap, .inl (cyI, 20, .inl (fun _ => 0)))], [(aw, .inl (cyI, 20, .inl (fun _ => 0)))], [(aq, .inl (cyI, 20, .inl (fun _ => 0)))], [(ar, .inl (cyI, 20, .inl (fun _ => 0)))]]) := hD
  refine lv_bipush (v := (-33 : Int32)) hx hb dL_law_53 (by decide) ?_
  refine lv_icmp_ne (tgt := 79) hx hb dL_law_55 (by decide) (fun c1 => absurd rfl c1) (fun _ => ?_)
  refine lv_aload_n hx hb dL_law_58 rfl (lv_at hl 5 rfl) ?_
  refine lv_bipush (v := (6 : Int32)) hx hb dL_law_59 (by decide) ?_
  refine gHi (gs := [[(h, .inr (5, [.ref (Ad 0), .ref (At 0), .ref (As 0), .ref (Ac 0), .ref (L 6 0)]))], dyW cyI Ad (dy0), dyW cyI At ((isM dy0 6 (isS dy0 dy0.2.2.2.2.2.1 sh0) dy0).2), shW cyI As (shOut (isM dy0 6 (isS dy0 dy0.2.2.2.2.2.1 sh0) dy0).1 dy0), ctW cyI Ac ct0, hiW cyI cyO L (hi0), [(ag, .inl (cyI, 6, .inl (fun _ => 0)))], [(ap, .inl (cyI, 20, .inl (fun _ => 0)))], [(aw, .inl (cyI, 20, .inl (fun _ => 0)))], [(aq, .inl (cyI, 20, .inl (fun _ => 0)))], [(ar, .inl (cyI, 20, .inl (fun _ => 0)))]]) (As := [.ref h, .int (6 : Int32)]) (rest := []) ⟨hx, hb, hml, hown, hts⟩ (t_L_size_IO l G cyI cyO h Ad At As Ac L dy0 6 (by decide) htr) (vx_cwSW 2 hts gL_law_L_size rfl rfl rfl (by decide +kernel) ⟨Nat.le_of_ble_eq_true rfl, Nat.le_of_ble_eq_true rfl⟩) hK hX hP hD hS hA [0, 1] rfl rfl (rfl : (2 : Nat) = 2) rfl hl.1 rfl (Nat.le_of_ble_eq_true rfl) dL_law_61 ⟨Nat.le_of_ble_eq_true rfl, Nat.le_of_ble_eq_true rfl⟩ (fun H locs hP hD hS => ?_)
  have hP : va_P G vwCl (cat [[(h, .inr (5, [.ref (Ad 0), .ref (At 0), .ref (As 0), .ref (Ac 0), .ref (L 6 0)]))], dyW cyI Ad (dy0), dyW cyI At ((isM dy0 6 (isS dy0 dy0.2.2.2.2.2.1 sh0) dy0).2), shW cyI As (shOut (isM dy0 6 (isS dy0 dy0.2.2.2.2.2.1 sh0) dy0).1 dy0), ctW cyI Ac ct0, hiW cyI cyO L (hi0), [(ag, .inl (cyI, 6, .inl (fun _ => 0)))], [(ap, .inl (cyI, 20, .inl (fun _ => 0)))], [(aw, .inl (cyI, 20, .inl (fun _ => 0)))], [(aq, .inl (cyI, 20, .inl (fun _ => 0)))], [(ar, .inl (cyI, 20, .inl (fun _ => 0)))]]) H := hP
  have hD : va_D A9 (cat [[(h, .inr (5, [.ref (Ad 0), .ref (At 0), .ref (As 0), .ref (Ac 0), .ref (L 6 0)]))], dyW cyI Ad (dy0), dyW cyI At ((isM dy0 6 (isS dy0 dy0.2.2.2.2.2.1 sh0) dy0).2), shW cyI As (shOut (isM dy0 6 (isS dy0 dy0.2.2.2.2.2.1 sh0) dy0).1 dy0), ctW cyI Ac ct0, hiW cyI cyO L (hi0), [(ag, .inl (cyI, 6, .inl (fun _ => 0)))], [(ap, .inl (cyI, 20, .inl (fun _ => 0)))], [(aw, .inl (cyI, 20, .inl (fun _ => 0)))], [(aq, .inl (cyI, 20, .inl (fun _ => 0)))], [(ar, .inl (cyI, 20, .inl (fun _ => 0)))]]) := hD
  refine lv_bipush (v := (-31 : Int32)) hx hb dL_law_64 (by decide) ?_
  refine lv_icmp_ne (tgt := 79) hx hb dL_law_66 (by decide) (fun c1 => absurd rfl c1) (fun _ => ?_)
  refine lv_aload_n hx hb dL_law_69 rfl (lv_at hl 5 rfl) ?_
  refine lv_iconst (v := (-1 : Int32)) hx hb dL_law_70 (by decide) ?_
  refine gHi (gs := [[(h, .inr (5, [.ref (Ad 0), .ref (At 0), .ref (As 0), .ref (Ac 0), .ref (L 6 0)]))], dyW cyI Ad (dy0), dyW cyI At ((isM dy0 6 (isS dy0 dy0.2.2.2.2.2.1 sh0) dy0).2), shW cyI As (shOut (isM dy0 6 (isS dy0 dy0.2.2.2.2.2.1 sh0) dy0).1 dy0), ctW cyI Ac ct0, hiW cyI cyO L (hi0), [(ag, .inl (cyI, 6, .inl (fun _ => 0)))], [(ap, .inl (cyI, 20, .inl (fun _ => 0)))], [(aw, .inl (cyI, 20, .inl (fun _ => 0)))], [(aq, .inl (cyI, 20, .inl (fun _ => 0)))], [(ar, .inl (cyI, 20, .inl (fun _ => 0)))]]) (As := [.ref h, .int (-1 : Int32)]) (rest := []) ⟨hx, hb, hml, hown, hts⟩ (t_L_changesIf_IO l G cyI cyO h Ad At As Ac L dy0 (-1) (by decide) htr) (vx_cwSW 2 hts gL_law_L_changesIf rfl rfl rfl (by decide +kernel) ⟨Nat.le_of_ble_eq_true rfl, Nat.le_of_ble_eq_true rfl⟩) hK hX hP hD hS hA [0, 1] rfl rfl (rfl : (2 : Nat) = 2) rfl hl.1 rfl (Nat.le_of_ble_eq_true rfl) dL_law_71 ⟨Nat.le_of_ble_eq_true rfl, Nat.le_of_ble_eq_true rfl⟩ (fun H locs hP hD hS => ?_)
  have hP : va_P G vwCl (cat [[(h, .inr (5, [.ref (Ad 0), .ref (At 0), .ref (As 0), .ref (Ac 0), .ref (L 6 0)]))], dyW cyI Ad (dy0), dyW cyI At ((isM dy0 6 (isS dy0 dy0.2.2.2.2.2.1 sh0) dy0).2), shW cyI As (shOut (isM dy0 6 (isS dy0 dy0.2.2.2.2.2.1 sh0) dy0).1 dy0), ctW cyI Ac ct0, hiW cyI cyO L (hi0), [(ag, .inl (cyI, 6, .inl (fun _ => 0)))], [(ap, .inl (cyI, 20, .inl (fun _ => 0)))], [(aw, .inl (cyI, 20, .inl (fun _ => 0)))], [(aq, .inl (cyI, 20, .inl (fun _ => 0)))], [(ar, .inl (cyI, 20, .inl (fun _ => 0)))]]) H := hP
  have hD : va_D A9 (cat [[(h, .inr (5, [.ref (Ad 0), .ref (At 0), .ref (As 0), .ref (Ac 0), .ref (L 6 0)]))], dyW cyI Ad (dy0), dyW cyI At ((isM dy0 6 (isS dy0 dy0.2.2.2.2.2.1 sh0) dy0).2), shW cyI As (shOut (isM dy0 6 (isS dy0 dy0.2.2.2.2.2.1 sh0) dy0).1 dy0), ctW cyI Ac ct0, hiW cyI cyO L (hi0), [(ag, .inl (cyI, 6, .inl (fun _ => 0)))], [(ap, .inl (cyI, 20, .inl (fun _ => 0)))], [(aw, .inl (cyI, 20, .inl (fun _ => 0)))], [(aq, .inl (cyI, 20, .inl (fun _ => 0)))], [(ar, .inl (cyI, 20, .inl (fun _ => 0)))]]) := hD
  refine lv_bipush (v := (-31 : Int32)) hx hb dL_law_74 (by decide) ?_
  refine lv_icmp_eq (tgt := 81) hx hb dL_law_76 (by decide) (fun _ => ?_) (fun c1 => absurd rfl c1)
  refine lv_iconst (v := nI 0) hx hb dL_law_81 (by decide +kernel) ?_
  refine lv_istore (lv' := [(7, .int (nI 0)), (6, .ref ar), (5, .ref aq), (4, .ref aw), (3, .ref ap), (2, .ref ag), (1, .ref h), (0, .ref b)]) hx hb dL_law_82 hl (by decide) rfl (fun ls hl => ?_)
  refine W.widen (k := 142) (n := 1324) (Nat.le_of_ble_eq_true rfl) (Nat.le_of_ble_eq_true rfl) ?_
  exact kk _ _ _ ⟨L, dy0, (isM dy0 6 (isS dy0 dy0.2.2.2.2.2.1 sh0) dy0).2, shOut (isM dy0 6 (isS dy0 dy0.2.2.2.2.2.1 sh0) dy0).1 dy0, hi0, 0, fun _ => 0, fun _ => 0, fun _ => 0, fun _ => 0, fun _ => 0, hP, hD, hS, hl, ra_0, Nat.zero_le _⟩


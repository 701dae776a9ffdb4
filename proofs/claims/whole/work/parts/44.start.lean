/-! ===== the law: what its start gives ===== -/
theorem tb {b : Nat} {s : State} (hts : ∀ w ∈ lw_tbl, w.before #[Value.ref b] s = true) (i : Nat) {w : Cond} (h : tables_1[i]? = some w) : w.before #[Value.ref b] s = true := hts w (List.mem_append_right _ (List.mem_of_getElem? h))
theorem start_str {b : Nat} {s : State} {k : Nat} {tx : String} (h1 : (Cond.stringRef RX5 k tx).before #[Value.ref b] s = true) (h2 : (Cond.exactly (.string RX5 k) "java/lang/String").before #[Value.ref b] s = true) : ∃ sa, vk_R RX5 k tx sa s := by
  obtain ⟨a, c, cA, kA, q1, q2, q3, q4, q5, q6, -⟩ := Cond.exactly_spec (args := #[Value.ref b]) (first := s) (o := none) (s := s) (idx := []) (t := .string RX5 k) (cls := "java/lang/String") h2
  exact ⟨a, vk_R.of h1 q1⟩
set_option maxHeartbeats 4000000 in
set_option maxRecDepth 100000 in
theorem start_xs {b : Nat} {s : State} (hts : ∀ w ∈ lw_tbl, w.before #[Value.ref b] s = true) (hgv : (Jvm.Cond.and given_1 narrow_1).before #[Value.ref b] s = true) : XS (fun q : Nat => s.heap.size ≤ q) s s.heap := by
  have hs := flat_of_before _ hgv
  refine ⟨?_, ?_, ?_, ?_, ?_, ?_⟩
  · exact vx_Zqof (tb hts 441 (w := .laysStatic Bundle.tN "UNASSIGNED_STACK" Bundle.steD) (by decide +kernel)) (tb hts 8 (w := .initialized Bundle.tN) (by decide +kernel)) (hs _ (by decide +kernel)) (fun a ha => Nat.not_le.mpr ha)
  · exact vx_Zqof (tb hts 443 (w := .laysStatic Bundle.tN "SUPPRESSED_SENTINEL" Bundle.listD) (by decide +kernel)) (tb hts 8 (w := .initialized Bundle.tN) (by decide +kernel)) (hs _ (by decide +kernel)) (fun a ha => Nat.not_le.mpr ha)
  · intro x hx
    simp only [xDe, List.mem_cons, List.not_mem_nil, or_false] at hx
    rcases hx with rfl | rfl | rfl
    · exact va_Nw.of rfl (tb hts 418 (w := .declares (Bundle.initS "java/lang/RuntimeException")) (by decide +kernel))
    · exact va_Nw.of rfl (tb hts 420 (w := .declares (Bundle.initS "java/lang/Exception")) (by decide +kernel))
    · exact va_Nw.of rfl (tb hts 422 (w := .declares (Bundle.initS Bundle.tN)) (by decide +kernel))
  · intro E hE
    simp only [List.mem_cons, List.not_mem_nil, or_false] at hE
    rcases hE with rfl | rfl | rfl
    · exact va_Nw.of rfl (tb hts 416 (w := .castable xIA xIA) (by decide +kernel))
    · exact va_Nw.of rfl (tb hts 488 (w := .castable xIS xIS) (by decide +kernel))
    · exact va_Nw.of rfl (tb hts 524 (w := .castable xIO xIO) (by decide +kernel))
  · intro q hq
    simp only [xStr, List.mem_cons, List.not_mem_nil, or_false] at hq
    rcases hq with rfl | rfl | rfl | rfl | rfl | rfl | rfl | rfl | rfl | rfl | rfl | rfl | rfl
    · exact start_str (tb hts 637 (w := .stringRef RX5 120 "there is a handover, or nobody is at work") (by decide +kernel)) (hs _ (by decide +kernel))
    · exact start_str (tb hts 655 (w := .stringRef RX5 128 "there is no handover") (by decide +kernel)) (hs _ (by decide +kernel))
    · exact start_str (tb hts 718 (w := .stringRef RX5 172 "a character code is 33 to 126") (by decide +kernel)) (hs _ (by decide +kernel))
    · exact start_str (tb hts 723 (w := .stringRef RX5 178 "the buffer contains 60 characters") (by decide +kernel)) (hs _ (by decide +kernel))
    · exact start_str (tb hts 740 (w := .stringRef RX5 192 "the buffer is not a complete change text") (by decide +kernel)) (hs _ (by decide +kernel))
    · exact start_str (tb hts 768 (w := .stringRef RX5 207 "no state is saved") (by decide +kernel)) (hs _ (by decide +kernel))
    · exact start_str (tb hts 531 (w := .stringRef RX5 233 "there is no such doorstep") (by decide +kernel)) (hs _ (by decide +kernel))
    · exact start_str (tb hts 573 (w := .stringRef RX5 236 "there is no such milkman") (by decide +kernel)) (hs _ (by decide +kernel))
    · exact start_str (tb hts 455 (w := .stringRef RX5 238 "pints are 1 to 9") (by decide +kernel)) (hs _ (by decide +kernel))
    · exact start_str (tb hts 495 (w := .stringRef RX5 50 "there is a handover, or there are 20 doorsteps") (by decide +kernel)) (hs _ (by decide +kernel))
    · exact start_str (tb hts 543 (w := .stringRef RX5 70 "there is a handover") (by decide +kernel)) (hs _ (by decide +kernel))
    · exact start_str (tb hts 578 (w := .stringRef RX5 85 "there is a handover, or he is at work") (by decide +kernel)) (hs _ (by decide +kernel))
    · exact start_str (tb hts 590 (w := .stringRef RX5 93 "there is a handover, or he is not at work") (by decide +kernel)) (hs _ (by decide +kernel))
  · intro q hq
    simp only [List.mem_cons, List.not_mem_nil, or_false] at hq
    rcases hq with rfl | rfl | rfl
    · exact va_Nc.of (args := #[Value.ref b]) (hs (.not (.castable xIS xIA)) (by decide +kernel))
    · exact va_Nc.of (args := #[Value.ref b]) (hs (.not (.castable xIS xIO)) (by decide +kernel))
    · exact va_Nc.of (args := #[Value.ref b]) (hs (.not (.castable xIA xIO)) (by decide +kernel))
theorem cat1 (w : va_W) : cat [w] = w := List.append_nil w
theorem c_X5_init1 (l : Launch) (G : va_G) (cyI cyO : ClassId) (h0 : Nat) : CN l G (TY cyI cyO) yX5_init wsX5_init rm_X5_init [(RX5, 9, yX1_init, RX5), (RX5, 21, yX4_init, RX5), (RX5, 28, yX0_init, RX5), (RX2, 21, yX1_init, RX5)] true [.ref (h0)] [[(h0, .inr (5, [.null, .null, .null, .null, .null]))]] 106 955 h0
    (fun A => [cat [[(A 0, .inr (5, [.ref (A 1), .ref (A 12), .ref (A 23), .ref (A 36), .ref (A 39)]))], dyW cyI (fun k => A (1 + k)) dy0, dyW cyI (fun k => A (12 + k)) dy0, shW cyI (fun k => A (23 + k)) sh0, ctW cyI (fun k => A (36 + k)) ct0, hiW cyI cyO (hiL (fun k => A (39 + k))) hi0]]) := by
  intro sz
  have h := c_X5_init l G cyI cyO h0 sz
  have e : ∀ (g : (Nat → Nat) → List va_W) (X : Nat → Prop), (fun A => cB G (TY cyI cyO) X [cat (g A)]) = fun A => cB G (TY cyI cyO) X (g A) := fun g X => funext fun A => by unfold cB; rw [cat1]
  rw [e (fun A => [[(A 0, .inr (5, [.ref (A 1), .ref (A 12), .ref (A 23), .ref (A 36), .ref (A 39)]))], dyW cyI (fun k => A (1 + k)) dy0, dyW cyI (fun k => A (12 + k)) dy0, shW cyI (fun k => A (23 + k)) sh0, ctW cyI (fun k => A (36 + k)) ct0, hiW cyI cyO (hiL (fun k => A (39 + k))) hi0])]
  exact h
theorem rr_0 : RR dy0 hi0 ct0 md0 := by
  refine ⟨⟨⟨nI_0.symm, by show 0 ≤ 20; omega, fun m hm => Or.inl rfl, fun d hd => absurd hd (Nat.not_lt_zero _), fun d hd => absurd hd (Nat.not_lt_zero _), Or.inl rfl⟩, fun d hd => absurd hd (Nat.not_lt_zero _), fun m hm => rfl, rfl, rfl, rfl, rfl, fun h => absurd rfl h⟩, ⟨rfl, by show 0 ≤ 6; omega, fun k hk => absurd hk (Nat.not_lt_zero _)⟩, ⟨rfl, by show 0 ≤ 60; omega, fun k hk => absurd hk (Nat.not_lt_zero _)⟩⟩
/-- the start of the law, for a heap in which its words hold -/
theorem start_K {b : Nat} {s : State} (hts : ∀ w ∈ lw_tbl, w.before #[Value.ref b] s = true) : ∃ (G : va_G) (cyI cyO : ClassId), va_K G vwCl (TY cyI cyO) s := by
  obtain ⟨c0, i0, k0⟩ := u_known (C := RX0) (T := TX0) (N := 2) (n := 2) hts inX0 (tb hts 98 (w := .instantiable RX0 2) (by decide +kernel))
  obtain ⟨c1, i1, k1⟩ := u_known (C := RX1) (T := TX1) (N := 10) (n := 10) hts inX1 (tb hts 23 (w := .instantiable RX1 10) (by decide +kernel))
  obtain ⟨c2, i2, k2⟩ := u_known (C := RX2) (T := TX2) (N := 2) (n := 2) hts inX2 (tb hts 113 (w := .instantiable RX2 2) (by decide +kernel))
  obtain ⟨c3, i3, k3⟩ := u_known (C := RX3) (T := TX3) (N := 1) (n := 1) hts inX3 (tb hts 29 (w := .instantiable RX3 1) (by decide +kernel))
  obtain ⟨c4, i4, k4⟩ := u_known (C := RX4) (T := TX4) (N := 6) (n := 6) hts inX4 (tb hts 71 (w := .instantiable RX4 6) (by decide +kernel))
  obtain ⟨c5, i5, k5⟩ := u_known (C := RX5) (T := TX5) (N := 5) (n := 5) hts inX5 (tb hts 15 (w := .instantiable RX5 5) (by decide +kernel))
  obtain ⟨c6, i6, k6⟩ := u_known (C := RX6) (T := TX6) (N := 12) (n := 12) hts inX6 (tb hts 774 (w := .instantiable RX6 12) (by decide +kernel))
  obtain ⟨dC, dI, hKc⟩ : ∃ (dC : Nat → ClassId) (dI : Nat → Nat → Nat), ∀ (k : Nat) (q : vw_C), vwCl[k]? = some q → u_Kn s q.1 q.2.1 q.2.2 (dC k) (dI k) := by
    refine ⟨fun k => if k = 0 then c0 else if k = 1 then c1 else if k = 2 then c2 else if k = 3 then c3 else if k = 4 then c4 else if k = 5 then c5 else c6, fun k => if k = 0 then i0 else if k = 1 then i1 else if k = 2 then i2 else if k = 3 then i3 else if k = 4 then i4 else if k = 5 then i5 else i6, ?_⟩
    intro k q hq
    match k, hq with
    | 0, hq => cases hq; exact k0
    | 1, hq => cases hq; exact k1
    | 2, hq => cases hq; exact k2
    | 3, hq => cases hq; exact k3
    | 4, hq => cases hq; exact k4
    | 5, hq => cases hq; exact k5
    | 6, hq => cases hq; exact k6
    | k + 7, hq => simp [vwCl] at hq
  obtain ⟨cyI, kI, compI, hI1, hI2, hI3⟩ := Cond.arrayClass_spec (tb hts 38 (w := .arrayClass .int) (by decide +kernel))
  obtain ⟨compO, cyO, kO, hO1, -, hO2, hO3, hO4⟩ := Cond.arrayOver_spec (tb hts 119 (w := .arrayOver (.object RX1)) (by decide +kernel))
  refine ⟨(dC, dI), cyI, cyO, hKc, fun k q hq => ?_⟩
  match k, hq with
  | 0, hq => cases hq; exact ⟨fun n z => ⟨fun k h => (by cases h), kI, hI2, compI, hI3⟩, hI1⟩
  | 1, hq => cases hq; exact ⟨fun n z => ⟨fun k h => (by cases h), kO, hO2, compO, hO3⟩, kO, compO, hO2, hO3, hO1, hO4⟩
  | k + 2, hq => simp at hq
theorem start_E {b : Nat} {s : State} (hts : ∀ w ∈ lw_tbl, w.before #[Value.ref b] s = true) : exE [(RX5, 9, yX1_init, RX5), (RX5, 21, yX4_init, RX5), (RX5, 28, yX0_init, RX5), (RX2, 21, yX1_init, RX5)] true s := by
  refine ⟨fun q hq => ?_, fun _ => va_AO.of (tb hts 119 (w := .arrayOver (.object RX1)) (by decide +kernel))⟩
  simp only [List.mem_cons, List.not_mem_nil, or_false] at hq
  rcases hq with rfl | rfl | rfl | rfl
  · exact va_Nw.of rfl (tb hts 24 (w := .methodLinkNest RX5 9 yX1_init RX5) (by decide +kernel))
  · exact va_Nw.of rfl (tb hts 72 (w := .methodLinkNest RX5 21 yX4_init RX5) (by decide +kernel))
  · exact va_Nw.of rfl (tb hts 99 (w := .methodLinkNest RX5 28 yX0_init RX5) (by decide +kernel))
  · exact va_Nw.of rfl (tb hts 120 (w := .methodLinkNest RX2 21 yX1_init RX5) (by decide +kernel))

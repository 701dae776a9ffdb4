/-! ===== the law's turns: all others ===== -/

abbrev rm_L_others : Room := { frames := 9, cells := 4, slots := 38, locals := 155 }
set_option maxHeartbeats 4000000 in
set_option maxRecDepth 100000 in
theorem c_L_others (l : Launch) (G : va_G) (cyI cyO : ClassId) (h : Nat) (Ad At As Ac : Nat → Nat) (L : Nat → Nat → Nat) (ag ap aw aq : Nat) (ar : Nat) (S : SS) (D : DS) (V : HS) (hV : V.1 ≤ 6) (M : Nat) (g p w q r : Nat → Int32) (x y : Int32) (hA0 : RA D M g p w q r) (htr : l.stackTraces = false) : CG (DS × SS × HS × (Nat → Nat → Nat) × Nat × (Nat → Int32) × (Nat → Int32) × (Nat → Int32) × (Nat → Int32)) l G (TY cyI cyO) yL_others wsL_others rm_L_others [.ref (h), .int (x), .int (y), .ref (ag), .ref (ap), .ref (aw), .ref (aq), .ref (ar)] [[(h, .inr (5, [.ref (Ad 0), .ref (At 0), .ref (As 0), .ref (Ac 0), .ref (L 6 0)]))], dyW cyI Ad D, shW cyI As S, hiW cyI cyO L V, [(ag, .inl (cyI, 6, .inl (g)))], [(ap, .inl (cyI, 20, .inl (p)))], [(aw, .inl (cyI, 20, .inl (w)))], [(aq, .inl (cyI, 20, .inl (q)))], [(ar, .inl (cyI, 20, .inl (r)))]] (fun u9 => RA u9.1 u9.2.2.2.2.1 u9.2.2.2.2.2.1 p u9.2.2.2.2.2.2.1 u9.2.2.2.2.2.2.2.1 u9.2.2.2.2.2.2.2.2 ∧ u9.2.2.1.1 ≤ 6) (fun u9 => [[(h, .inr (5, [.ref (Ad 0), .ref (At 0), .ref (As 0), .ref (Ac 0), .ref (u9.2.2.2.1 6 0)]))], dyW cyI Ad u9.1, shW cyI As u9.2.1, hiW cyI cyO u9.2.2.2.1 u9.2.2.1, [(ag, .inl (cyI, 6, .inl (u9.2.2.2.2.2.1)))], [(ap, .inl (cyI, 20, .inl (p)))], [(aw, .inl (cyI, 20, .inl (u9.2.2.2.2.2.2.1)))], [(aq, .inl (cyI, 20, .inl (u9.2.2.2.2.2.2.2.1)))], [(ar, .inl (cyI, 20, .inl (u9.2.2.2.2.2.2.2.2)))]]) 4 38 := by
  refine wk_G (cc := cL_others) (maxL := 14) (ret := (some .boolean)) (by decide) rfl (Nat.le_of_ble_eq_true rfl) ?_
  intro p9 e9 s9 m9 b9 t9 c9 A9 ls hx hb hr hts hown hlocks hml hK hA hD hP hl hS hX
  have hl : lv_has ls 14 [(0, .ref (h)), (1, .int (x)), (2, .int (y)), (3, .ref (ag)), (4, .ref (ap)), (5, .ref (aw)), (6, .ref (aq)), (7, .ref (ar))] := hl
  obtain ⟨⟨hM, hn, hW, hPO, hp9, hOw, hg0, hg1, hg2, hg3, hg4, hg5, hst, hq0⟩, hRH⟩ := id hA0
  obtain ⟨pn, hLs⟩ := hA0.1.lsd.lsp
  refine lv_iload_n hx hb dL_others_0 rfl (lv_at hl 1 rfl) ?_
  refine lv_bipush (v := (12 : Int32)) hx hb dL_others_1 (by decide) ?_
  refine gSi (gs := [[(h, .inr (5, [.ref (Ad 0), .ref (At 0), .ref (As 0), .ref (Ac 0), .ref (L 6 0)]))], dyW cyI Ad D, shW cyI As S, hiW cyI cyO L V, [(ag, .inl (cyI, 6, .inl (g)))], [(ap, .inl (cyI, 20, .inl (p)))], [(aw, .inl (cyI, 20, .inl (w)))], [(aq, .inl (cyI, 20, .inl (q)))], [(ar, .inl (cyI, 20, .inl (r)))]]) (As := [.int (x), .int ((12 : Int32))]) (rest := []) ⟨hx, hb, hml, hown, hts⟩ (c_L_low l G cyI cyO x 12 (by omega) (by omega)) (va_cwS 2 hts gL_others_L_low rfl rfl rfl (by decide +kernel) ⟨Nat.le_of_ble_eq_true rfl, Nat.le_of_ble_eq_true rfl⟩) hK hP hD hS hA [] rfl rfl (rfl : (0 : Nat) = 0) rfl hl.1 rfl (Nat.le_of_ble_eq_true rfl) dL_others_3 ⟨Nat.le_of_ble_eq_true rfl, Nat.le_of_ble_eq_true rfl⟩ (fun H locs hP hD hS => ?_)
  have hP : va_P G vwCl (cat [[(h, .inr (5, [.ref (Ad 0), .ref (At 0), .ref (As 0), .ref (Ac 0), .ref (L 6 0)]))], dyW cyI Ad D, shW cyI As S, hiW cyI cyO L V, [(ag, .inl (cyI, 6, .inl (g)))], [(ap, .inl (cyI, 20, .inl (p)))], [(aw, .inl (cyI, 20, .inl (w)))], [(aq, .inl (cyI, 20, .inl (q)))], [(ar, .inl (cyI, 20, .inl (r)))]]) H := hP
  have hD : va_D A9 (cat [[(h, .inr (5, [.ref (Ad 0), .ref (At 0), .ref (As 0), .ref (Ac 0), .ref (L 6 0)]))], dyW cyI Ad D, shW cyI As S, hiW cyI cyO L V, [(ag, .inl (cyI, 6, .inl (g)))], [(ap, .inl (cyI, 20, .inl (p)))], [(aw, .inl (cyI, 20, .inl (w)))], [(aq, .inl (cyI, 20, .inl (q)))], [(ar, .inl (cyI, 20, .inl (r)))]]) := hD
  obtain ⟨how, ehow⟩ : ∃ z, z = lowN x 12 := ⟨_, rfl⟩
  have hhow : how < 12 := by rw [ehow]; exact lowN_lt _ (by decide)
  refine top_i (x' := nI (how)) (congrArg nI ehow.symm) ?_
  refine lv_istore (lv' := [(8, .int (nI (how))), (0, .ref (h)), (1, .int (x)), (2, .int (y)), (3, .ref (ag)), (4, .ref (ap)), (5, .ref (aw)), (6, .ref (aq)), (7, .ref (ar))]) hx hb dL_others_6 hl (by decide) rfl (fun ls hl => ?_)
  refine lv_iload_n hx hb dL_others_8 rfl (lv_at hl 3 rfl) ?_
  refine lv_bipush (v := (6 : Int32)) hx hb dL_others_9 (by decide) ?_
  refine gSi (gs := [[(h, .inr (5, [.ref (Ad 0), .ref (At 0), .ref (As 0), .ref (Ac 0), .ref (L 6 0)]))], dyW cyI Ad D, shW cyI As S, hiW cyI cyO L V, [(ag, .inl (cyI, 6, .inl (g)))], [(ap, .inl (cyI, 20, .inl (p)))], [(aw, .inl (cyI, 20, .inl (w)))], [(aq, .inl (cyI, 20, .inl (q)))], [(ar, .inl (cyI, 20, .inl (r)))]]) (As := [.int (y), .int ((6 : Int32))]) (rest := []) ⟨hx, hb, hml, hown, hts⟩ (c_L_low l G cyI cyO y 6 (by omega) (by omega)) (va_cwS 2 hts gL_others_L_low rfl rfl rfl (by decide +kernel) ⟨Nat.le_of_ble_eq_true rfl, Nat.le_of_ble_eq_true rfl⟩) hK hP hD hS hA [] rfl rfl (rfl : (0 : Nat) = 0) rfl hl.1 rfl (Nat.le_of_ble_eq_true rfl) dL_others_11 ⟨Nat.le_of_ble_eq_true rfl, Nat.le_of_ble_eq_true rfl⟩ (fun H locs hP hD hS => ?_)
  have hP : va_P G vwCl (cat [[(h, .inr (5, [.ref (Ad 0), .ref (At 0), .ref (As 0), .ref (Ac 0), .ref (L 6 0)]))], dyW cyI Ad D, shW cyI As S, hiW cyI cyO L V, [(ag, .inl (cyI, 6, .inl (g)))], [(ap, .inl (cyI, 20, .inl (p)))], [(aw, .inl (cyI, 20, .inl (w)))], [(aq, .inl (cyI, 20, .inl (q)))], [(ar, .inl (cyI, 20, .inl (r)))]]) H := hP
  have hD : va_D A9 (cat [[(h, .inr (5, [.ref (Ad 0), .ref (At 0), .ref (As 0), .ref (Ac 0), .ref (L 6 0)]))], dyW cyI Ad D, shW cyI As S, hiW cyI cyO L V, [(ag, .inl (cyI, 6, .inl (g)))], [(ap, .inl (cyI, 20, .inl (p)))], [(aw, .inl (cyI, 20, .inl (w)))], [(aq, .inl (cyI, 20, .inl (q)))], [(ar, .inl (cyI, 20, .inl (r)))]]) := hD
  obtain ⟨m, em⟩ : ∃ z, z = lowN y 6 := ⟨_, rfl⟩
  have hm : m < 6 := by rw [em]; exact lowN_lt _ (by decide)
  have hbt := bt_le M m
  refine top_i (x' := nI (m)) (congrArg nI em.symm) ?_
  refine lv_istore (lv' := [(9, .int (nI (m))), (8, .int (nI (how))), (0, .ref (h)), (1, .int (x)), (2, .int (y)), (3, .ref (ag)), (4, .ref (ap)), (5, .ref (aw)), (6, .ref (aq)), (7, .ref (ar))]) hx hb dL_others_14 hl (by decide) rfl (fun ls hl => ?_)
  refine W_join (pc2 := 33) (v := .int (nI (bt M m))) (l2 := ls) (rest := []) ?_ (fun j_33 => ?_)
  · refine lv_istore (lv' := [(10, .int (nI (bt M m))), (9, .int (nI (m))), (8, .int (nI (how))), (0, .ref (h)), (1, .int (x)), (2, .int (y)), (3, .ref (ag)), (4, .ref (ap)), (5, .ref (aw)), (6, .ref (aq)), (7, .ref (ar))]) hx hb dL_others_33 hl (by decide) rfl (fun ls hl => ?_)
    refine lv_iload hx hb dL_others_35 (lv_at hl 2 rfl) ?_
    refine lv_iconst (v := (3 : Int32)) hx hb dL_others_37 (by decide) ?_
    refine lv_icmp_ge (tgt := 109) hx hb dL_others_38 (by decide) (fun c_38 => ?_) (fun c_38 => ?_)
    · have c_38 : (3) ≤ (how) := (nI_leI (a := 3) (b := how) (by omega) (by omega)).mp c_38
      refine lv_iload hx hb dL_others_109 (lv_at hl 2 rfl) ?_
      refine lv_iconst (v := (3 : Int32)) hx hb dL_others_111 (by decide) ?_
      refine lv_icmp_ne (tgt := 231) hx hb dL_others_112 (by decide) (fun c_112 => ?_) (fun c_112 => ?_)
      · have c_112 : ¬ (how) = (3) := fun h9 => c_112 ((nI_eq (a := how) (b := 3) (by omega) (by omega)).mpr h9)
        refine lv_iload hx hb dL_others_231 (lv_at hl 2 rfl) ?_
        refine lv_bipush (v := (7 : Int32)) hx hb dL_others_233 (by decide) ?_
        refine lv_icmp_ge (tgt := 348) hx hb dL_others_235 (by decide) (fun c_235 => ?_) (fun c_235 => ?_)
        · have c_235 : (7) ≤ (how) := (nI_leI (a := 7) (b := how) (by omega) (by omega)).mp c_235
          refine lv_iload hx hb dL_others_348 (lv_at hl 2 rfl) ?_
          refine lv_bipush (v := (10 : Int32)) hx hb dL_others_350 (by decide) ?_
          refine lv_icmp_ge (tgt := 516) hx hb dL_others_352 (by decide) (fun c_352 => ?_) (fun c_352 => ?_)
          · have c_352 : (10) ≤ (how) := (nI_leI (a := 10) (b := how) (by omega) (by omega)).mp c_352
            refine lv_iload hx hb dL_others_516 (lv_at hl 2 rfl) ?_
            refine lv_bipush (v := (10 : Int32)) hx hb dL_others_518 (by decide) ?_
            refine lv_icmp_ne (tgt := 638) hx hb dL_others_520 (by decide) (fun c_520 => ?_) (fun c_520 => ?_)
            · have c_520 : ¬ (how) = (10) := fun h9 => c_520 ((nI_eq (a := how) (b := 10) (by omega) (by omega)).mpr h9)
              refine lv_iconst (v := (0 : Int32)) hx hb dL_others_638 (by decide) ?_
              refine lv_istore (lv' := [(11, .int ((0 : Int32))), (10, .int (nI (bt M m))), (9, .int (nI (m))), (8, .int (nI (how))), (0, .ref (h)), (1, .int (x)), (2, .int (y)), (3, .ref (ag)), (4, .ref (ap)), (5, .ref (aw)), (6, .ref (aq)), (7, .ref (ar))]) hx hb dL_others_639 hl (by decide) rfl (fun ls hl => ?_)
              refine lv_iconst (v := (0 : Int32)) hx hb dL_others_641 (by decide) ?_
              refine lv_istore (lv' := [(12, .int ((0 : Int32))), (11, .int ((0 : Int32))), (10, .int (nI (bt M m))), (9, .int (nI (m))), (8, .int (nI (how))), (0, .ref (h)), (1, .int (x)), (2, .int (y)), (3, .ref (ag)), (4, .ref (ap)), (5, .ref (aw)), (6, .ref (aq)), (7, .ref (ar))]) hx hb dL_others_642 hl (by decide) rfl (fun ls hl => ?_)
              refine W_loop (α := Nat × Int32 × (Nat → Int32)) (I := fun a9 H locs ls => (a9.1 ≤ D.2.2.2.2.2.1) ∧ (a9.2.1 = (itr a9.1 (dlF p w) (0, D.2.2.2.2.2.2.2.2.2)).1) ∧ (a9.2.2 4 = (itr a9.1 (dlF p w) (0, D.2.2.2.2.2.2.2.2.2)).2 ∧ ∀ j, j ≠ 4 → a9.2.2 j = g j) ∧ va_P G vwCl (cat [[(h, .inr (5, [.ref (Ad 0), .ref (At 0), .ref (As 0), .ref (Ac 0), .ref (L 6 0)]))], dyW cyI Ad D, shW cyI As S, hiW cyI cyO L V, [(ag, .inl (cyI, 6, .inl (a9.2.2)))], [(ap, .inl (cyI, 20, .inl (p)))], [(aw, .inl (cyI, 20, .inl (w)))], [(aq, .inl (cyI, 20, .inl (q)))], [(ar, .inl (cyI, 20, .inl (r)))]]) H ∧ va_D A9 (cat [[(h, .inr (5, [.ref (Ad 0), .ref (At 0), .ref (As 0), .ref (Ac 0), .ref (L 6 0)]))], dyW cyI Ad D, shW cyI As S, hiW cyI cyO L V, [(ag, .inl (cyI, 6, .inl (a9.2.2)))], [(ap, .inl (cyI, 20, .inl (p)))], [(aw, .inl (cyI, 20, .inl (w)))], [(aq, .inl (cyI, 20, .inl (q)))], [(ar, .inl (cyI, 20, .inl (r)))]]) ∧ va_S A9 s9.heap H locs ∧ lv_has ls 14 [(12, .int (nI (a9.1))), (11, .int (a9.2.1)), (10, .int (nI (bt M m))), (9, .int (nI (m))), (8, .int (nI (how))), (0, .ref (h)), (1, .int (x)), (2, .int (y)), (3, .ref (ag)), (4, .ref (ap)), (5, .ref (aw)), (6, .ref (aq)), (7, .ref (ar))]) (μ := fun a9 => D.2.2.2.2.2.1 - a9.1) (st := fun a9 => []) ?_ (0, 0, g) _ _ _ ⟨(show 0 ≤ D.2.2.2.2.2.1 from Nat.zero_le _), (show 0 = (itr 0 (dlF p w) (0, D.2.2.2.2.2.2.2.2.2)).1 from rfl), (show g 4 = (itr 0 (dlF p w) (0, D.2.2.2.2.2.2.2.2.2)).2 ∧ ∀ j, j ≠ 4 → g j = g j from ⟨hg4, fun _ _ => rfl⟩), hP, hD, hS, lv_sub hl [0, 1, 2, 3, 4, 5, 6, 7, 8, 9, 10, 11, 12] rfl⟩
              intro a9 ih_644 H locs ls hI
              obtain ⟨i, x1, g1⟩ := a9
              obtain ⟨hi9, he9, hgj9, hP9, hD9, hS9, hl9⟩ := hI
              have hi : i ≤ D.2.2.2.2.2.1 := hi9
              have he : x1 = (itr i (dlF p w) (0, D.2.2.2.2.2.2.2.2.2)).1 := he9
              have hgj : g1 4 = (itr i (dlF p w) (0, D.2.2.2.2.2.2.2.2.2)).2 ∧ ∀ j, j ≠ 4 → g1 j = g j := hgj9
              have hP : va_P G vwCl (cat [[(h, .inr (5, [.ref (Ad 0), .ref (At 0), .ref (As 0), .ref (Ac 0), .ref (L 6 0)]))], dyW cyI Ad D, shW cyI As S, hiW cyI cyO L V, [(ag, .inl (cyI, 6, .inl (g1)))], [(ap, .inl (cyI, 20, .inl (p)))], [(aw, .inl (cyI, 20, .inl (w)))], [(aq, .inl (cyI, 20, .inl (q)))], [(ar, .inl (cyI, 20, .inl (r)))]]) H := hP9
              have hD : va_D A9 (cat [[(h, .inr (5, [.ref (Ad 0), .ref (At 0), .ref (As 0), .ref (Ac 0), .ref (L 6 0)]))], dyW cyI Ad D, shW cyI As S, hiW cyI cyO L V, [(ag, .inl (cyI, 6, .inl (g1)))], [(ap, .inl (cyI, 20, .inl (p)))], [(aw, .inl (cyI, 20, .inl (w)))], [(aq, .inl (cyI, 20, .inl (q)))], [(ar, .inl (cyI, 20, .inl (r)))]]) := hD9
              have hS := hS9
              have hl : lv_has ls 14 [(12, .int (nI (i))), (11, .int (x1)), (10, .int (nI (bt M m))), (9, .int (nI (m))), (8, .int (nI (how))), (0, .ref (h)), (1, .int (x)), (2, .int (y)), (3, .ref (ag)), (4, .ref (ap)), (5, .ref (aw)), (6, .ref (aq)), (7, .ref (ar))] := hl9
              clear hi9 he9 hgj9 hP9 hD9 hS9 hl9
              refine lv_iload hx hb dL_others_644 (lv_at hl 0 rfl) ?_
              refine lv_aload_n hx hb dL_others_646 rfl (lv_at hl 8 rfl) ?_
              refine lv_iconst (v := (0 : Int32)) hx hb dL_others_647 (by decide) ?_
              refine r_ild (k := 0) (n := 6) (f := g1) hx hb hK hP 93 0 rfl rfl (by omega) (by omega) rfl dL_others_648 ?_
              refine top_i (x' := nI (D.2.2.2.2.2.1)) (by rw [hgj.2 0 (by decide)]; exact hg0) ?_
              refine lv_icmp_ge (tgt := 699) hx hb dL_others_649 (by decide) (fun c_649 => ?_) (fun c_649 => ?_)
              · have c_649 : (D.2.2.2.2.2.1) ≤ (i) := (nI_leI (a := D.2.2.2.2.2.1) (b := i) (by omega) (by omega)).mp c_649
                obtain rfl : D.2.2.2.2.2.1 = i := by omega
                have eg := upd_of hgj.1 hgj.2
                subst eg
                subst he
                refine lv_aload_n hx hb dL_others_699 rfl (lv_at hl 8 rfl) ?_
                refine lv_iconst (v := (3 : Int32)) hx hb dL_others_700 (by decide) ?_
                refine lv_dup2_11 hx hb dL_others_701 rfl rfl ?_
                refine r_ild (k := 3) (n := 6) (f := upd g 4 (itr D.2.2.2.2.2.1 (dlF p w) (0, D.2.2.2.2.2.2.2.2.2)).2) hx hb hK hP 93 0 rfl rfl (by omega) (by omega) rfl dL_others_702 ?_
                refine top_i (x' := D.2.2.2.2.2.2.2.2.1) (by rw [pk_un (by decide)]; exact hg3) ?_
                refine lv_iload hx hb dL_others_703 (lv_at hl 1 rfl) ?_
                refine lv_iadd hx hb dL_others_705 ?_
                refine r_ist (k := 3) (n := 6) (f := upd g 4 (itr D.2.2.2.2.2.1 (dlF p w) (0, D.2.2.2.2.2.2.2.2.2)).2) hx hb hK hP hD hS 93 0 rfl rfl (by omega) (by omega) rfl dL_others_706 (fun H locs hP hD hS => ?_)
                have hP : va_P G vwCl (cat [[(h, .inr (5, [.ref (Ad 0), .ref (At 0), .ref (As 0), .ref (Ac 0), .ref (L 6 0)]))], dyW cyI Ad D, shW cyI As S, hiW cyI cyO L V, [(ag, .inl (cyI, 6, .inl (upd (upd g 4 (itr D.2.2.2.2.2.1 (dlF p w) (0, D.2.2.2.2.2.2.2.2.2)).2) 3 (D.2.2.2.2.2.2.2.2.1 + ((itr D.2.2.2.2.2.1 (dlF p w) (0, D.2.2.2.2.2.2.2.2.2)).1)))))], [(ap, .inl (cyI, 20, .inl (p)))], [(aw, .inl (cyI, 20, .inl (w)))], [(aq, .inl (cyI, 20, .inl (q)))], [(ar, .inl (cyI, 20, .inl (r)))]]) H := hP
                have hD : va_D A9 (cat [[(h, .inr (5, [.ref (Ad 0), .ref (At 0), .ref (As 0), .ref (Ac 0), .ref (L 6 0)]))], dyW cyI Ad D, shW cyI As S, hiW cyI cyO L V, [(ag, .inl (cyI, 6, .inl (upd (upd g 4 (itr D.2.2.2.2.2.1 (dlF p w) (0, D.2.2.2.2.2.2.2.2.2)).2) 3 (D.2.2.2.2.2.2.2.2.1 + ((itr D.2.2.2.2.2.1 (dlF p w) (0, D.2.2.2.2.2.2.2.2.2)).1)))))], [(ap, .inl (cyI, 20, .inl (p)))], [(aw, .inl (cyI, 20, .inl (w)))], [(aq, .inl (cyI, 20, .inl (q)))], [(ar, .inl (cyI, 20, .inl (r)))]]) := hD
                refine lv_aload_n hx hb dL_others_707 rfl (lv_at hl 5 rfl) ?_
                refine gVi (gs := [[(h, .inr (5, [.ref (Ad 0), .ref (At 0), .ref (As 0), .ref (Ac 0), .ref (L 6 0)]))], dyW cyI Ad D, shW cyI As S, hiW cyI cyO L V, [(ag, .inl (cyI, 6, .inl (upd (upd g 4 (itr D.2.2.2.2.2.1 (dlF p w) (0, D.2.2.2.2.2.2.2.2.2)).2) 3 (D.2.2.2.2.2.2.2.2.1 + ((itr D.2.2.2.2.2.1 (dlF p w) (0, D.2.2.2.2.2.2.2.2.2)).1)))))], [(ap, .inl (cyI, 20, .inl (p)))], [(aw, .inl (cyI, 20, .inl (w)))], [(aq, .inl (cyI, 20, .inl (q)))], [(ar, .inl (cyI, 20, .inl (r)))]]) (As := []) (rest := []) ⟨hx, hb, hml, hown, hts⟩ (c_X5_deliver l G cyI cyO h Ad At As Ac L D V (by omega) (by omega)) (cwV 0 hts gL_others_X5_deliver rfl rfl rfl (by decide +kernel) ⟨Nat.le_of_ble_eq_true rfl, Nat.le_of_ble_eq_true rfl⟩) hK hP hD hS hA [0, 1, 3] rfl rfl (rfl : (3 : Nat) = 3) 0 5 rfl rfl rfl hl.1 rfl (Nat.le_of_ble_eq_true rfl) dL_others_708 ⟨Nat.le_of_ble_eq_true rfl, Nat.le_of_ble_eq_true rfl⟩ (fun H locs hP hD hS => ?_)
                have hP : va_P G vwCl (cat [[(h, .inr (5, [.ref (Ad 0), .ref (At 0), .ref (As 0), .ref (Ac 0), .ref (L 6 0)]))], dyW cyI Ad (dBring D), shW cyI As S, hiW cyI cyO (svM L V) (svS V D), [(ag, .inl (cyI, 6, .inl (upd (upd g 4 (itr D.2.2.2.2.2.1 (dlF p w) (0, D.2.2.2.2.2.2.2.2.2)).2) 3 (D.2.2.2.2.2.2.2.2.1 + ((itr D.2.2.2.2.2.1 (dlF p w) (0, D.2.2.2.2.2.2.2.2.2)).1)))))], [(ap, .inl (cyI, 20, .inl (p)))], [(aw, .inl (cyI, 20, .inl (w)))], [(aq, .inl (cyI, 20, .inl (q)))], [(ar, .inl (cyI, 20, .inl (r)))]]) H := hP
                have hD : va_D A9 (cat [[(h, .inr (5, [.ref (Ad 0), .ref (At 0), .ref (As 0), .ref (Ac 0), .ref (L 6 0)]))], dyW cyI Ad (dBring D), shW cyI As S, hiW cyI cyO (svM L V) (svS V D), [(ag, .inl (cyI, 6, .inl (upd (upd g 4 (itr D.2.2.2.2.2.1 (dlF p w) (0, D.2.2.2.2.2.2.2.2.2)).2) 3 (D.2.2.2.2.2.2.2.2.1 + ((itr D.2.2.2.2.2.1 (dlF p w) (0, D.2.2.2.2.2.2.2.2.2)).1)))))], [(ap, .inl (cyI, 20, .inl (p)))], [(aw, .inl (cyI, 20, .inl (w)))], [(aq, .inl (cyI, 20, .inl (q)))], [(ar, .inl (cyI, 20, .inl (r)))]]) := hD
                refine top_i (x' := (itr D.2.2.2.2.2.1 (dlF p w) (0, D.2.2.2.2.2.2.2.2.2)).1) (congrArg Prod.fst (dl_bm hA0 _ (Nat.le_refl _))) ?_
                refine lv_iload hx hb dL_others_711 (lv_at hl 1 rfl) ?_
                refine lv_icmp_ne (tgt := 720) hx hb dL_others_713 (by decide) (fun c_713 => ?_) (fun c_713 => ?_)
                · exact absurd rfl c_713
                · refine lv_iconst (v := (1 : Int32)) hx hb dL_others_716 (by decide) ?_
                  refine lv_goto (tgt := 721) hx hb dL_others_717 (by decide) ?_
                  refine W.widen (k := 4) (n := 38) (Nat.le_of_ble_eq_true rfl) (Nat.le_of_ble_eq_true rfl) ?_
                  exact end_g (U := DS × SS × HS × (Nat → Nat → Nat) × Nat × (Nat → Int32) × (Nat → Int32) × (Nat → Int32) × (Nat → Int32)) (ok := fun u9 => RA u9.1 u9.2.2.2.2.1 u9.2.2.2.2.2.1 p u9.2.2.2.2.2.2.1 u9.2.2.2.2.2.2.2.1 u9.2.2.2.2.2.2.2.2 ∧ u9.2.2.1.1 ≤ 6) (gu := fun u9 => [[(h, .inr (5, [.ref (Ad 0), .ref (At 0), .ref (As 0), .ref (Ac 0), .ref (u9.2.2.2.1 6 0)]))], dyW cyI Ad u9.1, shW cyI As u9.2.1, hiW cyI cyO u9.2.2.2.1 u9.2.2.1, [(ag, .inl (cyI, 6, .inl (u9.2.2.2.2.2.1)))], [(ap, .inl (cyI, 20, .inl (p)))], [(aw, .inl (cyI, 20, .inl (u9.2.2.2.2.2.2.1)))], [(aq, .inl (cyI, 20, .inl (u9.2.2.2.2.2.2.2.1)))], [(ar, .inl (cyI, 20, .inl (u9.2.2.2.2.2.2.2.2)))]]) ((dBring D, S, svS V D, svM L V, M, upd (upd g 4 (itr D.2.2.2.2.2.1 (dlF p w) (0, D.2.2.2.2.2.2.2.2.2)).2) 3 (D.2.2.2.2.2.2.2.2.1 + (itr D.2.2.2.2.2.1 (dlF p w) (0, D.2.2.2.2.2.2.2.2.2)).1), w, q, r)) hx hb hr hlocks hK hP hD hS (⟨hA0.dlv, svS_le hV⟩) dL_others_721
              · have c_649 : ¬ (D.2.2.2.2.2.1) ≤ (i) := fun h9 => c_649 ((nI_leI (a := D.2.2.2.2.2.1) (b := i) (by omega) (by omega)).mpr h9)
                refine lv_iload hx hb dL_others_652 (lv_at hl 1 rfl) ?_
                refine W_join (pc2 := 671) (v := .int (if w i < 0 then 0 else p i)) (l2 := ls) (rest := [.int (x1)]) ?_ (fun j_671 => ?_)
                · refine lv_iadd hx hb dL_others_671 ?_
                  refine lv_istore (lv' := [(11, .int (x1 + (if w i < 0 then 0 else p i))), (12, .int (nI (i))), (10, .int (nI (bt M m))), (9, .int (nI (m))), (8, .int (nI (how))), (0, .ref (h)), (1, .int (x)), (2, .int (y)), (3, .ref (ag)), (4, .ref (ap)), (5, .ref (aw)), (6, .ref (aq)), (7, .ref (ar))]) hx hb dL_others_672 hl (by decide) rfl (fun ls hl => ?_)
                  refine lv_aload_n hx hb dL_others_674 rfl (lv_at hl 8 rfl) ?_
                  refine lv_iconst (v := (4 : Int32)) hx hb dL_others_675 (by decide) ?_
                  refine lv_dup2_11 hx hb dL_others_676 rfl rfl ?_
                  refine r_ild (k := 4) (n := 6) (f := g1) hx hb hK hP 93 0 rfl rfl (by omega) (by omega) rfl dL_others_677 ?_
                  refine W_join (pc2 := 691) (v := .int (if w i < 0 then 1 else 0)) (l2 := ls) (rest := [.int (g1 4), .int ((4 : Int32)), .ref (ag)]) ?_ (fun j_691 => ?_)
                  · refine lv_iadd hx hb dL_others_691 ?_
                    refine r_ist (k := 4) (n := 6) (f := g1) hx hb hK hP hD hS 93 0 rfl rfl (by omega) (by omega) rfl dL_others_692 (fun H locs hP hD hS => ?_)
                    have hP : va_P G vwCl (cat [[(h, .inr (5, [.ref (Ad 0), .ref (At 0), .ref (As 0), .ref (Ac 0), .ref (L 6 0)]))], dyW cyI Ad D, shW cyI As S, hiW cyI cyO L V, [(ag, .inl (cyI, 6, .inl (upd g1 4 ((g1 4) + (if w i < 0 then 1 else 0)))))], [(ap, .inl (cyI, 20, .inl (p)))], [(aw, .inl (cyI, 20, .inl (w)))], [(aq, .inl (cyI, 20, .inl (q)))], [(ar, .inl (cyI, 20, .inl (r)))]]) H := hP
                    have hD : va_D A9 (cat [[(h, .inr (5, [.ref (Ad 0), .ref (At 0), .ref (As 0), .ref (Ac 0), .ref (L 6 0)]))], dyW cyI Ad D, shW cyI As S, hiW cyI cyO L V, [(ag, .inl (cyI, 6, .inl (upd g1 4 ((g1 4) + (if w i < 0 then 1 else 0)))))], [(ap, .inl (cyI, 20, .inl (p)))], [(aw, .inl (cyI, 20, .inl (w)))], [(aq, .inl (cyI, 20, .inl (q)))], [(ar, .inl (cyI, 20, .inl (r)))]]) := hD
                    refine lv_iinc (v := nI (i + 1)) (lv' := [(12, .int (nI (i + 1))), (11, .int (x1 + (if w i < 0 then 0 else p i))), (10, .int (nI (bt M m))), (9, .int (nI (m))), (8, .int (nI (how))), (0, .ref (h)), (1, .int (x)), (2, .int (y)), (3, .ref (ag)), (4, .ref (ap)), (5, .ref (aw)), (6, .ref (aq)), (7, .ref (ar))]) hx hb dL_others_693 hl (k := 1) rfl (nI_add _ _) (by decide) rfl (fun ls hl => ?_)
                    refine lv_goto (tgt := 644) hx hb dL_others_696 (by decide) ?_
                    exact ih_644 (i + 1, x1 + (if w i < 0 then 0 else p i), upd g1 4 ((g1 4) + (if w i < 0 then 1 else 0))) (by show (D.2.2.2.2.2.1 - (i + 1)) < (D.2.2.2.2.2.1 - i); omega) _ _ _ ⟨(show (i + 1) ≤ D.2.2.2.2.2.1 from by omega), (show (x1 + (if w i < 0 then 0 else p i)) = (itr (i + 1) (dlF p w) (0, D.2.2.2.2.2.2.2.2.2)).1 from by show _ = (dlF p w i (itr i _ _)).1; rw [← dl_1, ← he]), (show (upd g1 4 ((g1 4) + (if w i < 0 then 1 else 0))) 4 = (itr (i + 1) (dlF p w) (0, D.2.2.2.2.2.2.2.2.2)).2 ∧ ∀ j, j ≠ 4 → (upd g1 4 ((g1 4) + (if w i < 0 then 1 else 0))) j = g j from ⟨by rw [pk_us]; show _ = (dlF p w i (itr i _ _)).2; rw [← dl_2, ← hgj.1], fun j hj => by rw [pk_un hj]; exact hgj.2 j hj⟩), hP, hD, hS, lv_sub hl [0, 1, 2, 3, 4, 5, 6, 7, 8, 9, 10, 11, 12] rfl⟩
                  · refine lv_aload hx hb dL_others_678 (lv_at hl 10 rfl) ?_
                    refine lv_iload hx hb dL_others_680 (lv_at hl 1 rfl) ?_
                    refine r_ild (k := i) (n := 20) (f := w) hx hb hK hP 95 0 rfl rfl (by omega) (by omega) rfl dL_others_682 ?_
                    refine lv_if_ge (tgt := 690) hx hb dL_others_683 (by decide) (fun c_683 => ?_) (fun c_683 => ?_)
                    · refine lv_iconst (v := (0 : Int32)) hx hb dL_others_690 (by decide) ?_
                      refine top_i (x' := if w i < 0 then 1 else 0) (by first | rw [if_pos (i_nge c_683)] | rw [if_neg (i_ge c_683)]) ?_
                      exact j_691
                    · refine lv_iconst (v := (1 : Int32)) hx hb dL_others_686 (by decide) ?_
                      refine lv_goto (tgt := 691) hx hb dL_others_687 (by decide) ?_
                      refine top_i (x' := if w i < 0 then 1 else 0) (by first | rw [if_pos (i_nge c_683)] | rw [if_neg (i_ge c_683)]) ?_
                      exact j_691
                · refine lv_aload hx hb dL_others_654 (lv_at hl 10 rfl) ?_
                  refine lv_iload hx hb dL_others_656 (lv_at hl 0 rfl) ?_
                  refine r_ild (k := i) (n := 20) (f := w) hx hb hK hP 95 0 rfl rfl (by omega) (by omega) rfl dL_others_658 ?_
                  refine lv_if_ge (tgt := 666) hx hb dL_others_659 (by decide) (fun c_659 => ?_) (fun c_659 => ?_)
                  · refine lv_aload hx hb dL_others_666 (lv_at hl 9 rfl) ?_
                    refine lv_iload hx hb dL_others_668 (lv_at hl 0 rfl) ?_
                    refine r_ild (k := i) (n := 20) (f := p) hx hb hK hP 94 0 rfl rfl (by omega) (by omega) rfl dL_others_670 ?_
                    refine top_i (x' := if w i < 0 then 0 else p i) (by first | rw [if_pos (i_nge c_659)] | rw [if_neg (i_ge c_659)]) ?_
                    exact j_671
                  · refine lv_iconst (v := (0 : Int32)) hx hb dL_others_662 (by decide) ?_
                    refine lv_goto (tgt := 671) hx hb dL_others_663 (by decide) ?_
                    refine top_i (x' := if w i < 0 then 0 else p i) (by first | rw [if_pos (i_nge c_659)] | rw [if_neg (i_ge c_659)]) ?_
                    exact j_671
            · have c_520 : (how) = (10) := (nI_eq (a := how) (b := 10) (by omega) (by omega)).mp c_520
              refine lv_iload_n hx hb dL_others_523 rfl (lv_at hl 5 rfl) ?_
              refine lv_bipush (v := (64 : Int32)) hx hb dL_others_524 (by decide) ?_
              refine lv_iand hx hb dL_others_526 ?_
              refine lv_if_ne (tgt := 638) hx hb dL_others_527 (by decide) (fun c_527 => ?_) (fun c_527 => ?_)
              · refine lv_iconst (v := (0 : Int32)) hx hb dL_others_638 (by decide) ?_
                refine lv_istore (lv' := [(11, .int ((0 : Int32))), (10, .int (nI (bt M m))), (9, .int (nI (m))), (8, .int (nI (how))), (0, .ref (h)), (1, .int (x)), (2, .int (y)), (3, .ref (ag)), (4, .ref (ap)), (5, .ref (aw)), (6, .ref (aq)), (7, .ref (ar))]) hx hb dL_others_639 hl (by decide) rfl (fun ls hl => ?_)
                refine lv_iconst (v := (0 : Int32)) hx hb dL_others_641 (by decide) ?_
                refine lv_istore (lv' := [(12, .int ((0 : Int32))), (11, .int ((0 : Int32))), (10, .int (nI (bt M m))), (9, .int (nI (m))), (8, .int (nI (how))), (0, .ref (h)), (1, .int (x)), (2, .int (y)), (3, .ref (ag)), (4, .ref (ap)), (5, .ref (aw)), (6, .ref (aq)), (7, .ref (ar))]) hx hb dL_others_642 hl (by decide) rfl (fun ls hl => ?_)
                refine W_loop (α := Nat × Int32 × (Nat → Int32)) (I := fun a9 H locs ls => (a9.1 ≤ D.2.2.2.2.2.1) ∧ (a9.2.1 = (itr a9.1 (dlF p w) (0, D.2.2.2.2.2.2.2.2.2)).1) ∧ (a9.2.2 4 = (itr a9.1 (dlF p w) (0, D.2.2.2.2.2.2.2.2.2)).2 ∧ ∀ j, j ≠ 4 → a9.2.2 j = g j) ∧ va_P G vwCl (cat [[(h, .inr (5, [.ref (Ad 0), .ref (At 0), .ref (As 0), .ref (Ac 0), .ref (L 6 0)]))], dyW cyI Ad D, shW cyI As S, hiW cyI cyO L V, [(ag, .inl (cyI, 6, .inl (a9.2.2)))], [(ap, .inl (cyI, 20, .inl (p)))], [(aw, .inl (cyI, 20, .inl (w)))], [(aq, .inl (cyI, 20, .inl (q)))], [(ar, .inl (cyI, 20, .inl (r)))]]) H ∧ va_D A9 (cat [[(h, .inr (5, [.ref (Ad 0), .ref (At 0), .ref (As 0), .ref (Ac 0), .ref (L 6 0)]))], dyW cyI Ad D, shW cyI As S, hiW cyI cyO L V, [(ag, .inl (cyI, 6, .inl (a9.2.2)))], [(ap, .inl (cyI, 20, .inl (p)))], [(aw, .inl (cyI, 20, .inl (w)))], [(aq, .inl (cyI, 20, .inl (q)))], [(ar, .inl (cyI, 20, .inl (r)))]]) ∧ va_S A9 s9.heap H locs ∧ lv_has ls 14 [(12, .int (nI (a9.1))), (11, .int (a9.2.1)), (10, .int (nI (bt M m))), (9, .int (nI (m))), (8, .int (nI (how))), (0, .ref (h)), (1, .int (x)), (2, .int (y)), (3, .ref (ag)), (4, .ref (ap)), (5, .ref (aw)), (6, .ref (aq)), (7, .ref (ar))]) (μ := fun a9 => D.2.2.2.2.2.1 - a9.1) (st := fun a9 => []) ?_ (0, 0, g) _ _ _ ⟨(show 0 ≤ D.2.2.2.2.2.1 from Nat.zero_le _), (show 0 = (itr 0 (dlF p w) (0, D.2.2.2.2.2.2.2.2.2)).1 from rfl), (show g 4 = (itr 0 (dlF p w) (0, D.2.2.2.2.2.2.2.2.2)).2 ∧ ∀ j, j ≠ 4 → g j = g j from ⟨hg4, fun _ _ => rfl⟩), hP, hD, hS, lv_sub hl [0, 1, 2, 3, 4, 5, 6, 7, 8, 9, 10, 11, 12] rfl⟩
                intro a9 ih_644 H locs ls hI
                obtain ⟨i, x1, g1⟩ := a9
                obtain ⟨hi9, he9, hgj9, hP9, hD9, hS9, hl9⟩ := hI
                have hi : i ≤ D.2.2.2.2.2.1 := hi9
                have he : x1 = (itr i (dlF p w) (0, D.2.2.2.2.2.2.2.2.2)).1 := he9
                have hgj : g1 4 = (itr i (dlF p w) (0, D.2.2.2.2.2.2.2.2.2)).2 ∧ ∀ j, j ≠ 4 → g1 j = g j := hgj9
                have hP : va_P G vwCl (cat [[(h, .inr (5, [.ref (Ad 0), .ref (At 0), .ref (As 0), .ref (Ac 0), .ref (L 6 0)]))], dyW cyI Ad D, shW cyI As S, hiW cyI cyO L V, [(ag, .inl (cyI, 6, .inl (g1)))], [(ap, .inl (cyI, 20, .inl (p)))], [(aw, .inl (cyI, 20, .inl (w)))], [(aq, .inl (cyI, 20, .inl (q)))], [(ar, .inl (cyI, 20, .inl (r)))]]) H := hP9
                have hD : va_D A9 (cat [[(h, .inr (5, [.ref (Ad 0), .ref (At 0), .ref (As 0), .ref (Ac 0), .ref (L 6 0)]))], dyW cyI Ad D, shW cyI As S, hiW cyI cyO L V, [(ag, .inl (cyI, 6, .inl (g1)))], [(ap, .inl (cyI, 20, .inl (p)))], [(aw, .inl (cyI, 20, .inl (w)))], [(aq, .inl (cyI, 20, .inl (q)))], [(ar, .inl (cyI, 20, .inl (r)))]]) := hD9
                have hS := hS9
                have hl : lv_has ls 14 [(12, .int (nI (i))), (11, .int (x1)), (10, .int (nI (bt M m))), (9, .int (nI (m))), (8, .int (nI (how))), (0, .ref (h)), (1, .int (x)), (2, .int (y)), (3, .ref (ag)), (4, .ref (ap)), (5, .ref (aw)), (6, .ref (aq)), (7, .ref (ar))] := hl9
                clear hi9 he9 hgj9 hP9 hD9 hS9 hl9
                refine lv_iload hx hb dL_others_644 (lv_at hl 0 rfl) ?_
                refine lv_aload_n hx hb dL_others_646 rfl (lv_at hl 8 rfl) ?_
                refine lv_iconst (v := (0 : Int32)) hx hb dL_others_647 (by decide) ?_
                refine r_ild (k := 0) (n := 6) (f := g1) hx hb hK hP 93 0 rfl rfl (by omega) (by omega) rfl dL_others_648 ?_
                refine top_i (x' := nI (D.2.2.2.2.2.1)) (by rw [hgj.2 0 (by decide)]; exact hg0) ?_
                refine lv_icmp_ge (tgt := 699) hx hb dL_others_649 (by decide) (fun c_649 => ?_) (fun c_649 => ?_)
                · have c_649 : (D.2.2.2.2.2.1) ≤ (i) := (nI_leI (a := D.2.2.2.2.2.1) (b := i) (by omega) (by omega)).mp c_649
                  obtain rfl : D.2.2.2.2.2.1 = i := by omega
                  have eg := upd_of hgj.1 hgj.2
                  subst eg
                  subst he
                  refine lv_aload_n hx hb dL_others_699 rfl (lv_at hl 8 rfl) ?_
                  refine lv_iconst (v := (3 : Int32)) hx hb dL_others_700 (by decide) ?_
                  refine lv_dup2_11 hx hb dL_others_701 rfl rfl ?_
                  refine r_ild (k := 3) (n := 6) (f := upd g 4 (itr D.2.2.2.2.2.1 (dlF p w) (0, D.2.2.2.2.2.2.2.2.2)).2) hx hb hK hP 93 0 rfl rfl (by omega) (by omega) rfl dL_others_702 ?_
                  refine top_i (x' := D.2.2.2.2.2.2.2.2.1) (by rw [pk_un (by decide)]; exact hg3) ?_
                  refine lv_iload hx hb dL_others_703 (lv_at hl 1 rfl) ?_
                  refine lv_iadd hx hb dL_others_705 ?_
                  refine r_ist (k := 3) (n := 6) (f := upd g 4 (itr D.2.2.2.2.2.1 (dlF p w) (0, D.2.2.2.2.2.2.2.2.2)).2) hx hb hK hP hD hS 93 0 rfl rfl (by omega) (by omega) rfl dL_others_706 (fun H locs hP hD hS => ?_)
                  have hP : va_P G vwCl (cat [[(h, .inr (5, [.ref (Ad 0), .ref (At 0), .ref (As 0), .ref (Ac 0), .ref (L 6 0)]))], dyW cyI Ad D, shW cyI As S, hiW cyI cyO L V, [(ag, .inl (cyI, 6, .inl (upd (upd g 4 (itr D.2.2.2.2.2.1 (dlF p w) (0, D.2.2.2.2.2.2.2.2.2)).2) 3 (D.2.2.2.2.2.2.2.2.1 + ((itr D.2.2.2.2.2.1 (dlF p w) (0, D.2.2.2.2.2.2.2.2.2)).1)))))], [(ap, .inl (cyI, 20, .inl (p)))], [(aw, .inl (cyI, 20, .inl (w)))], [(aq, .inl (cyI, 20, .inl (q)))], [(ar, .inl (cyI, 20, .inl (r)))]]) H := hP
                  have hD : va_D A9 (cat [[(h, .inr (5, [.ref (Ad 0), .ref (At 0), .ref (As 0), .ref (Ac 0), .ref (L 6 0)]))], dyW cyI Ad D, shW cyI As S, hiW cyI cyO L V, [(ag, .inl (cyI, 6, .inl (upd (upd g 4 (itr D.2.2.2.2.2.1 (dlF p w) (0, D.2.2.2.2.2.2.2.2.2)).2) 3 (D.2.2.2.2.2.2.2.2.1 + ((itr D.2.2.2.2.2.1 (dlF p w) (0, D.2.2.2.2.2.2.2.2.2)).1)))))], [(ap, .inl (cyI, 20, .inl (p)))], [(aw, .inl (cyI, 20, .inl (w)))], [(aq, .inl (cyI, 20, .inl (q)))], [(ar, .inl (cyI, 20, .inl (r)))]]) := hD
                  refine lv_aload_n hx hb dL_others_707 rfl (lv_at hl 5 rfl) ?_
                  refine gVi (gs := [[(h, .inr (5, [.ref (Ad 0), .ref (At 0), .ref (As 0), .ref (Ac 0), .ref (L 6 0)]))], dyW cyI Ad D, shW cyI As S, hiW cyI cyO L V, [(ag, .inl (cyI, 6, .inl (upd (upd g 4 (itr D.2.2.2.2.2.1 (dlF p w) (0, D.2.2.2.2.2.2.2.2.2)).2) 3 (D.2.2.2.2.2.2.2.2.1 + ((itr D.2.2.2.2.2.1 (dlF p w) (0, D.2.2.2.2.2.2.2.2.2)).1)))))], [(ap, .inl (cyI, 20, .inl (p)))], [(aw, .inl (cyI, 20, .inl (w)))], [(aq, .inl (cyI, 20, .inl (q)))], [(ar, .inl (cyI, 20, .inl (r)))]]) (As := []) (rest := []) ⟨hx, hb, hml, hown, hts⟩ (c_X5_deliver l G cyI cyO h Ad At As Ac L D V (by omega) (by omega)) (cwV 0 hts gL_others_X5_deliver rfl rfl rfl (by decide +kernel) ⟨Nat.le_of_ble_eq_true rfl, Nat.le_of_ble_eq_true rfl⟩) hK hP hD hS hA [0, 1, 3] rfl rfl (rfl : (3 : Nat) = 3) 0 5 rfl rfl rfl hl.1 rfl (Nat.le_of_ble_eq_true rfl) dL_others_708 ⟨Nat.le_of_ble_eq_true rfl, Nat.le_of_ble_eq_true rfl⟩ (fun H locs hP hD hS => ?_)
                  have hP : va_P G vwCl (cat [[(h, .inr (5, [.ref (Ad 0), .ref (At 0), .ref (As 0), .ref (Ac 0), .ref (L 6 0)]))], dyW cyI Ad (dBring D), shW cyI As S, hiW cyI cyO (svM L V) (svS V D), [(ag, .inl (cyI, 6, .inl (upd (upd g 4 (itr D.2.2.2.2.2.1 (dlF p w) (0, D.2.2.2.2.2.2.2.2.2)).2) 3 (D.2.2.2.2.2.2.2.2.1 + ((itr D.2.2.2.2.2.1 (dlF p w) (0, D.2.2.2.2.2.2.2.2.2)).1)))))], [(ap, .inl (cyI, 20, .inl (p)))], [(aw, .inl (cyI, 20, .inl (w)))], [(aq, .inl (cyI, 20, .inl (q)))], [(ar, .inl (cyI, 20, .inl (r)))]]) H := hP
                  have hD : va_D A9 (cat [[(h, .inr (5, [.ref (Ad 0), .ref (At 0), .ref (As 0), .ref (Ac 0), .ref (L 6 0)]))], dyW cyI Ad (dBring D), shW cyI As S, hiW cyI cyO (svM L V) (svS V D), [(ag, .inl (cyI, 6, .inl (upd (upd g 4 (itr D.2.2.2.2.2.1 (dlF p w) (0, D.2.2.2.2.2.2.2.2.2)).2) 3 (D.2.2.2.2.2.2.2.2.1 + ((itr D.2.2.2.2.2.1 (dlF p w) (0, D.2.2.2.2.2.2.2.2.2)).1)))))], [(ap, .inl (cyI, 20, .inl (p)))], [(aw, .inl (cyI, 20, .inl (w)))], [(aq, .inl (cyI, 20, .inl (q)))], [(ar, .inl (cyI, 20, .inl (r)))]]) := hD
                  refine top_i (x' := (itr D.2.2.2.2.2.1 (dlF p w) (0, D.2.2.2.2.2.2.2.2.2)).1) (congrArg Prod.fst (dl_bm hA0 _ (Nat.le_refl _))) ?_
                  refine lv_iload hx hb dL_others_711 (lv_at hl 1 rfl) ?_
                  refine lv_icmp_ne (tgt := 720) hx hb dL_others_713 (by decide) (fun c_713 => ?_) (fun c_713 => ?_)
                  · exact absurd rfl c_713
                  · refine lv_iconst (v := (1 : Int32)) hx hb dL_others_716 (by decide) ?_
                    refine lv_goto (tgt := 721) hx hb dL_others_717 (by decide) ?_
                    refine W.widen (k := 4) (n := 38) (Nat.le_of_ble_eq_true rfl) (Nat.le_of_ble_eq_true rfl) ?_
                    exact end_g (U := DS × SS × HS × (Nat → Nat → Nat) × Nat × (Nat → Int32) × (Nat → Int32) × (Nat → Int32) × (Nat → Int32)) (ok := fun u9 => RA u9.1 u9.2.2.2.2.1 u9.2.2.2.2.2.1 p u9.2.2.2.2.2.2.1 u9.2.2.2.2.2.2.2.1 u9.2.2.2.2.2.2.2.2 ∧ u9.2.2.1.1 ≤ 6) (gu := fun u9 => [[(h, .inr (5, [.ref (Ad 0), .ref (At 0), .ref (As 0), .ref (Ac 0), .ref (u9.2.2.2.1 6 0)]))], dyW cyI Ad u9.1, shW cyI As u9.2.1, hiW cyI cyO u9.2.2.2.1 u9.2.2.1, [(ag, .inl (cyI, 6, .inl (u9.2.2.2.2.2.1)))], [(ap, .inl (cyI, 20, .inl (p)))], [(aw, .inl (cyI, 20, .inl (u9.2.2.2.2.2.2.1)))], [(aq, .inl (cyI, 20, .inl (u9.2.2.2.2.2.2.2.1)))], [(ar, .inl (cyI, 20, .inl (u9.2.2.2.2.2.2.2.2)))]]) ((dBring D, S, svS V D, svM L V, M, upd (upd g 4 (itr D.2.2.2.2.2.1 (dlF p w) (0, D.2.2.2.2.2.2.2.2.2)).2) 3 (D.2.2.2.2.2.2.2.2.1 + (itr D.2.2.2.2.2.1 (dlF p w) (0, D.2.2.2.2.2.2.2.2.2)).1), w, q, r)) hx hb hr hlocks hK hP hD hS (⟨hA0.dlv, svS_le hV⟩) dL_others_721
                · have c_649 : ¬ (D.2.2.2.2.2.1) ≤ (i) := fun h9 => c_649 ((nI_leI (a := D.2.2.2.2.2.1) (b := i) (by omega) (by omega)).mpr h9)
                  refine lv_iload hx hb dL_others_652 (lv_at hl 1 rfl) ?_
                  refine W_join (pc2 := 671) (v := .int (if w i < 0 then 0 else p i)) (l2 := ls) (rest := [.int (x1)]) ?_ (fun j_671 => ?_)
                  · refine lv_iadd hx hb dL_others_671 ?_
                    refine lv_istore (lv' := [(11, .int (x1 + (if w i < 0 then 0 else p i))), (12, .int (nI (i))), (10, .int (nI (bt M m))), (9, .int (nI (m))), (8, .int (nI (how))), (0, .ref (h)), (1, .int (x)), (2, .int (y)), (3, .ref (ag)), (4, .ref (ap)), (5, .ref (aw)), (6, .ref (aq)), (7, .ref (ar))]) hx hb dL_others_672 hl (by decide) rfl (fun ls hl => ?_)
                    refine lv_aload_n hx hb dL_others_674 rfl (lv_at hl 8 rfl) ?_
                    refine lv_iconst (v := (4 : Int32)) hx hb dL_others_675 (by decide) ?_
                    refine lv_dup2_11 hx hb dL_others_676 rfl rfl ?_
                    refine r_ild (k := 4) (n := 6) (f := g1) hx hb hK hP 93 0 rfl rfl (by omega) (by omega) rfl dL_others_677 ?_
                    refine W_join (pc2 := 691) (v := .int (if w i < 0 then 1 else 0)) (l2 := ls) (rest := [.int (g1 4), .int ((4 : Int32)), .ref (ag)]) ?_ (fun j_691 => ?_)
                    · refine lv_iadd hx hb dL_others_691 ?_
                      refine r_ist (k := 4) (n := 6) (f := g1) hx hb hK hP hD hS 93 0 rfl rfl (by omega) (by omega) rfl dL_others_692 (fun H locs hP hD hS => ?_)
                      have hP : va_P G vwCl (cat [[(h, .inr (5, [.ref (Ad 0), .ref (At 0), .ref (As 0), .ref (Ac 0), .ref (L 6 0)]))], dyW cyI Ad D, shW cyI As S, hiW cyI cyO L V, [(ag, .inl (cyI, 6, .inl (upd g1 4 ((g1 4) + (if w i < 0 then 1 else 0)))))], [(ap, .inl (cyI, 20, .inl (p)))], [(aw, .inl (cyI, 20, .inl (w)))], [(aq, .inl (cyI, 20, .inl (q)))], [(ar, .inl (cyI, 20, .inl (r)))]]) H := hP
                      have hD : va_D A9 (cat [[(h, .inr (5, [.ref (Ad 0), .ref (At 0), .ref (As 0), .ref (Ac 0), .ref (L 6 0)]))], dyW cyI Ad D, shW cyI As S, hiW cyI cyO L V, [(ag, .inl (cyI, 6, .inl (upd g1 4 ((g1 4) + (if w i < 0 then 1 else 0)))))], [(ap, .inl (cyI, 20, .inl (p)))], [(aw, .inl (cyI, 20, .inl (w)))], [(aq, .inl (cyI, 20, .inl (q)))], [(ar, .inl (cyI, 20, .inl (r)))]]) := hD
                      refine lv_iinc (v := nI (i + 1)) (lv' := [(12, .int (nI (i + 1))), (11, .int (x1 + (if w i < 0 then 0 else p i))), (10, .int (nI (bt M m))), (9, .int (nI (m))), (8, .int (nI (how))), (0, .ref (h)), (1, .int (x)), (2, .int (y)), (3, .ref (ag)), (4, .ref (ap)), (5, .ref (aw)), (6, .ref (aq)), (7, .ref (ar))]) hx hb dL_others_693 hl (k := 1) rfl (nI_add _ _) (by decide) rfl (fun ls hl => ?_)
                      refine lv_goto (tgt := 644) hx hb dL_others_696 (by decide) ?_
                      exact ih_644 (i + 1, x1 + (if w i < 0 then 0 else p i), upd g1 4 ((g1 4) + (if w i < 0 then 1 else 0))) (by show (D.2.2.2.2.2.1 - (i + 1)) < (D.2.2.2.2.2.1 - i); omega) _ _ _ ⟨(show (i + 1) ≤ D.2.2.2.2.2.1 from by omega), (show (x1 + (if w i < 0 then 0 else p i)) = (itr (i + 1) (dlF p w) (0, D.2.2.2.2.2.2.2.2.2)).1 from by show _ = (dlF p w i (itr i _ _)).1; rw [← dl_1, ← he]), (show (upd g1 4 ((g1 4) + (if w i < 0 then 1 else 0))) 4 = (itr (i + 1) (dlF p w) (0, D.2.2.2.2.2.2.2.2.2)).2 ∧ ∀ j, j ≠ 4 → (upd g1 4 ((g1 4) + (if w i < 0 then 1 else 0))) j = g j from ⟨by rw [pk_us]; show _ = (dlF p w i (itr i _ _)).2; rw [← dl_2, ← hgj.1], fun j hj => by rw [pk_un hj]; exact hgj.2 j hj⟩), hP, hD, hS, lv_sub hl [0, 1, 2, 3, 4, 5, 6, 7, 8, 9, 10, 11, 12] rfl⟩
                    · refine lv_aload hx hb dL_others_678 (lv_at hl 10 rfl) ?_
                      refine lv_iload hx hb dL_others_680 (lv_at hl 1 rfl) ?_
                      refine r_ild (k := i) (n := 20) (f := w) hx hb hK hP 95 0 rfl rfl (by omega) (by omega) rfl dL_others_682 ?_
                      refine lv_if_ge (tgt := 690) hx hb dL_others_683 (by decide) (fun c_683 => ?_) (fun c_683 => ?_)
                      · refine lv_iconst (v := (0 : Int32)) hx hb dL_others_690 (by decide) ?_
                        refine top_i (x' := if w i < 0 then 1 else 0) (by first | rw [if_pos (i_nge c_683)] | rw [if_neg (i_ge c_683)]) ?_
                        exact j_691
                      · refine lv_iconst (v := (1 : Int32)) hx hb dL_others_686 (by decide) ?_
                        refine lv_goto (tgt := 691) hx hb dL_others_687 (by decide) ?_
                        refine top_i (x' := if w i < 0 then 1 else 0) (by first | rw [if_pos (i_nge c_683)] | rw [if_neg (i_ge c_683)]) ?_
                        exact j_691
                  · refine lv_aload hx hb dL_others_654 (lv_at hl 10 rfl) ?_
                    refine lv_iload hx hb dL_others_656 (lv_at hl 0 rfl) ?_
                    refine r_ild (k := i) (n := 20) (f := w) hx hb hK hP 95 0 rfl rfl (by omega) (by omega) rfl dL_others_658 ?_
                    refine lv_if_ge (tgt := 666) hx hb dL_others_659 (by decide) (fun c_659 => ?_) (fun c_659 => ?_)
                    · refine lv_aload hx hb dL_others_666 (lv_at hl 9 rfl) ?_
                      refine lv_iload hx hb dL_others_668 (lv_at hl 0 rfl) ?_
                      refine r_ild (k := i) (n := 20) (f := p) hx hb hK hP 94 0 rfl rfl (by omega) (by omega) rfl dL_others_670 ?_
                      refine top_i (x' := if w i < 0 then 0 else p i) (by first | rw [if_pos (i_nge c_659)] | rw [if_neg (i_ge c_659)]) ?_
                      exact j_671
                    · refine lv_iconst (v := (0 : Int32)) hx hb dL_others_662 (by decide) ?_
                      refine lv_goto (tgt := 671) hx hb dL_others_663 (by decide) ?_
                      refine top_i (x' := if w i < 0 then 0 else p i) (by first | rw [if_pos (i_nge c_659)] | rw [if_neg (i_ge c_659)]) ?_
                      exact j_671
              · refine lv_aload_n hx hb dL_others_530 rfl (lv_at hl 6 rfl) ?_
                refine lv_iconst (v := (1 : Int32)) hx hb dL_others_531 (by decide) ?_
                refine r_ild (k := 1) (n := 6) (f := g) hx hb hK hP 93 0 rfl rfl (by omega) (by omega) rfl dL_others_532 ?_
                refine top_i (x' := D.2.2.2.2.2.2.1) (hg1) ?_
                refine lv_if_ne (tgt := 551) hx hb dL_others_533 (by decide) (fun c_533 => ?_) (fun c_533 => ?_)
                · refine lv_iconst (v := (0 : Int32)) hx hb dL_others_551 (by decide) ?_
                  refine lv_istore (lv' := [(11, .int ((0 : Int32))), (10, .int (nI (bt M m))), (9, .int (nI (m))), (8, .int (nI (how))), (0, .ref (h)), (1, .int (x)), (2, .int (y)), (3, .ref (ag)), (4, .ref (ap)), (5, .ref (aw)), (6, .ref (aq)), (7, .ref (ar))]) hx hb dL_others_552 hl (by decide) rfl (fun ls hl => ?_)
                  refine lv_iconst (v := (0 : Int32)) hx hb dL_others_554 (by decide) ?_
                  refine lv_istore (lv' := [(12, .int ((0 : Int32))), (11, .int ((0 : Int32))), (10, .int (nI (bt M m))), (9, .int (nI (m))), (8, .int (nI (how))), (0, .ref (h)), (1, .int (x)), (2, .int (y)), (3, .ref (ag)), (4, .ref (ap)), (5, .ref (aw)), (6, .ref (aq)), (7, .ref (ar))]) hx hb dL_others_555 hl (by decide) rfl (fun ls hl => ?_)
                  refine W_loop (α := Nat × Nat) (I := fun a9 H locs ls => (a9.1 ≤ D.2.2.2.2.2.1) ∧ (a9.2 = itr a9.1 (coF D.2.2.2.2.2.2.1 q r) 0) ∧ va_P G vwCl (cat [[(h, .inr (5, [.ref (Ad 0), .ref (At 0), .ref (As 0), .ref (Ac 0), .ref (L 6 0)]))], dyW cyI Ad D, shW cyI As S, hiW cyI cyO L V, [(ag, .inl (cyI, 6, .inl (g)))], [(ap, .inl (cyI, 20, .inl (p)))], [(aw, .inl (cyI, 20, .inl (cpF a9.1 r w)))], [(aq, .inl (cyI, 20, .inl (q)))], [(ar, .inl (cyI, 20, .inl (r)))]]) H ∧ va_D A9 (cat [[(h, .inr (5, [.ref (Ad 0), .ref (At 0), .ref (As 0), .ref (Ac 0), .ref (L 6 0)]))], dyW cyI Ad D, shW cyI As S, hiW cyI cyO L V, [(ag, .inl (cyI, 6, .inl (g)))], [(ap, .inl (cyI, 20, .inl (p)))], [(aw, .inl (cyI, 20, .inl (cpF a9.1 r w)))], [(aq, .inl (cyI, 20, .inl (q)))], [(ar, .inl (cyI, 20, .inl (r)))]]) ∧ va_S A9 s9.heap H locs ∧ lv_has ls 14 [(12, .int (nI (a9.1))), (11, .int (nI (a9.2))), (10, .int (nI (bt M m))), (9, .int (nI (m))), (8, .int (nI (how))), (0, .ref (h)), (1, .int (x)), (2, .int (y)), (3, .ref (ag)), (4, .ref (ap)), (5, .ref (aw)), (6, .ref (aq)), (7, .ref (ar))]) (μ := fun a9 => D.2.2.2.2.2.1 - a9.1) (st := fun a9 => []) ?_ (0, 0) _ _ _ ⟨(show 0 ≤ D.2.2.2.2.2.1 from Nat.zero_le _), (show 0 = itr 0 (coF D.2.2.2.2.2.2.1 q r) 0 from rfl), hP, hD, hS, lv_sub hl [0, 1, 2, 3, 4, 5, 6, 7, 8, 9, 10, 11, 12] rfl⟩
                  intro a9 ih_557 H locs ls hI
                  obtain ⟨i, cn⟩ := a9
                  obtain ⟨hi9, he9, hP9, hD9, hS9, hl9⟩ := hI
                  have hi : i ≤ D.2.2.2.2.2.1 := hi9
                  have he : cn = itr i (coF D.2.2.2.2.2.2.1 q r) 0 := he9
                  have hP : va_P G vwCl (cat [[(h, .inr (5, [.ref (Ad 0), .ref (At 0), .ref (As 0), .ref (Ac 0), .ref (L 6 0)]))], dyW cyI Ad D, shW cyI As S, hiW cyI cyO L V, [(ag, .inl (cyI, 6, .inl (g)))], [(ap, .inl (cyI, 20, .inl (p)))], [(aw, .inl (cyI, 20, .inl (cpF i r w)))], [(aq, .inl (cyI, 20, .inl (q)))], [(ar, .inl (cyI, 20, .inl (r)))]]) H := hP9
                  have hD : va_D A9 (cat [[(h, .inr (5, [.ref (Ad 0), .ref (At 0), .ref (As 0), .ref (Ac 0), .ref (L 6 0)]))], dyW cyI Ad D, shW cyI As S, hiW cyI cyO L V, [(ag, .inl (cyI, 6, .inl (g)))], [(ap, .inl (cyI, 20, .inl (p)))], [(aw, .inl (cyI, 20, .inl (cpF i r w)))], [(aq, .inl (cyI, 20, .inl (q)))], [(ar, .inl (cyI, 20, .inl (r)))]]) := hD9
                  have hS := hS9
                  have hl : lv_has ls 14 [(12, .int (nI (i))), (11, .int (nI (cn))), (10, .int (nI (bt M m))), (9, .int (nI (m))), (8, .int (nI (how))), (0, .ref (h)), (1, .int (x)), (2, .int (y)), (3, .ref (ag)), (4, .ref (ap)), (5, .ref (aw)), (6, .ref (aq)), (7, .ref (ar))] := hl9
                  clear hi9 he9 hP9 hD9 hS9 hl9
                  refine lv_iload hx hb dL_others_557 (lv_at hl 0 rfl) ?_
                  refine lv_aload_n hx hb dL_others_559 rfl (lv_at hl 8 rfl) ?_
                  refine lv_iconst (v := (0 : Int32)) hx hb dL_others_560 (by decide) ?_
                  refine r_ild (k := 0) (n := 6) (f := g) hx hb hK hP 93 0 rfl rfl (by omega) (by omega) rfl dL_others_561 ?_
                  refine top_i (x' := nI (D.2.2.2.2.2.1)) (hg0) ?_
                  refine lv_icmp_ge (tgt := 619) hx hb dL_others_562 (by decide) (fun c_562 => ?_) (fun c_562 => ?_)
                  · have c_562 : (D.2.2.2.2.2.1) ≤ (i) := (nI_leI (a := D.2.2.2.2.2.1) (b := i) (by omega) (by omega)).mp c_562
                    obtain rfl : D.2.2.2.2.2.1 = i := by omega
                    refine lv_aload_n hx hb dL_others_619 rfl (lv_at hl 8 rfl) ?_
                    refine lv_iconst (v := (1 : Int32)) hx hb dL_others_620 (by decide) ?_
                    refine lv_iconst (v := (0 : Int32)) hx hb dL_others_621 (by decide) ?_
                    refine r_ist (k := 1) (n := 6) (f := g) hx hb hK hP hD hS 93 0 rfl rfl (by omega) (by omega) rfl dL_others_622 (fun H locs hP hD hS => ?_)
                    have hP : va_P G vwCl (cat [[(h, .inr (5, [.ref (Ad 0), .ref (At 0), .ref (As 0), .ref (Ac 0), .ref (L 6 0)]))], dyW cyI Ad D, shW cyI As S, hiW cyI cyO L V, [(ag, .inl (cyI, 6, .inl (upd g 1 ((0 : Int32)))))], [(ap, .inl (cyI, 20, .inl (p)))], [(aw, .inl (cyI, 20, .inl (cpF D.2.2.2.2.2.1 r w)))], [(aq, .inl (cyI, 20, .inl (q)))], [(ar, .inl (cyI, 20, .inl (r)))]]) H := hP
                    have hD : va_D A9 (cat [[(h, .inr (5, [.ref (Ad 0), .ref (At 0), .ref (As 0), .ref (Ac 0), .ref (L 6 0)]))], dyW cyI Ad D, shW cyI As S, hiW cyI cyO L V, [(ag, .inl (cyI, 6, .inl (upd g 1 ((0 : Int32)))))], [(ap, .inl (cyI, 20, .inl (p)))], [(aw, .inl (cyI, 20, .inl (cpF D.2.2.2.2.2.1 r w)))], [(aq, .inl (cyI, 20, .inl (q)))], [(ar, .inl (cyI, 20, .inl (r)))]]) := hD
                    refine lv_aload_n hx hb dL_others_623 rfl (lv_at hl 5 rfl) ?_
                    refine gHi (gs := [[(h, .inr (5, [.ref (Ad 0), .ref (At 0), .ref (As 0), .ref (Ac 0), .ref (L 6 0)]))], dyW cyI Ad D, shW cyI As S, hiW cyI cyO L V, [(ag, .inl (cyI, 6, .inl (upd g 1 ((0 : Int32)))))], [(ap, .inl (cyI, 20, .inl (p)))], [(aw, .inl (cyI, 20, .inl (cpF D.2.2.2.2.2.1 r w)))], [(aq, .inl (cyI, 20, .inl (q)))], [(ar, .inl (cyI, 20, .inl (r)))]]) (As := [.ref (h)]) (rest := []) ⟨hx, hb, hml, hown, hts⟩ (n_L_callOff l G cyI cyO h Ad At As Ac L D V (by omega) (by omega) (dho_t c_533)) (vx_cwSW 1 hts gL_others_L_callOff rfl rfl rfl (by decide +kernel) ⟨Nat.le_of_ble_eq_true rfl, Nat.le_of_ble_eq_true rfl⟩) hK hX hP hD hS hA [0, 1, 3] rfl rfl (rfl : (3 : Nat) = 3) rfl hl.1 rfl (Nat.le_of_ble_eq_true rfl) dL_others_624 ⟨Nat.le_of_ble_eq_true rfl, Nat.le_of_ble_eq_true rfl⟩ (fun H locs hP hD hS => ?_)
                    have hP : va_P G vwCl (cat [[(h, .inr (5, [.ref (Ad 0), .ref (At 0), .ref (As 0), .ref (Ac 0), .ref (L 6 0)]))], dyW cyI Ad (dBack D), shW cyI As S, hiW cyI cyO (svM L V) (svS V D), [(ag, .inl (cyI, 6, .inl (upd g 1 ((0 : Int32)))))], [(ap, .inl (cyI, 20, .inl (p)))], [(aw, .inl (cyI, 20, .inl (cpF D.2.2.2.2.2.1 r w)))], [(aq, .inl (cyI, 20, .inl (q)))], [(ar, .inl (cyI, 20, .inl (r)))]]) H := hP
                    have hD : va_D A9 (cat [[(h, .inr (5, [.ref (Ad 0), .ref (At 0), .ref (As 0), .ref (Ac 0), .ref (L 6 0)]))], dyW cyI Ad (dBack D), shW cyI As S, hiW cyI cyO (svM L V) (svS V D), [(ag, .inl (cyI, 6, .inl (upd g 1 ((0 : Int32)))))], [(ap, .inl (cyI, 20, .inl (p)))], [(aw, .inl (cyI, 20, .inl (cpF D.2.2.2.2.2.1 r w)))], [(aq, .inl (cyI, 20, .inl (q)))], [(ar, .inl (cyI, 20, .inl (r)))]]) := hD
                    refine W.cs (cells' := 1) (slots' := 6) rfl rfl ?_
                    have hcn := coF_le (st := D.2.2.2.2.2.2.1) (q := q) (r := r) D.2.2.2.2.2.1
                    rw [← he] at hcn
                    refine top_i (x' := nI (cn)) (congrArg nI ((co_cnt hA0 c_533).trans he.symm)) ?_
                    refine lv_iload hx hb dL_others_627 (lv_at hl 1 rfl) ?_
                    refine lv_icmp_ne (tgt := 636) hx hb dL_others_629 (by decide) (fun c_629 => ?_) (fun c_629 => ?_)
                    · have c_629 : ¬ (cn) = (cn) := fun h9 => c_629 ((nI_eq (a := cn) (b := cn) (by omega) (by omega)).mpr h9)
                      exact absurd rfl c_629
                    · have c_629 : (cn) = (cn) := (nI_eq (a := cn) (b := cn) (by omega) (by omega)).mp c_629
                      refine lv_iconst (v := (1 : Int32)) hx hb dL_others_632 (by decide) ?_
                      refine lv_goto (tgt := 637) hx hb dL_others_633 (by decide) ?_
                      refine W.widen (k := 4) (n := 38) (Nat.le_of_ble_eq_true rfl) (Nat.le_of_ble_eq_true rfl) ?_
                      exact end_g (U := DS × SS × HS × (Nat → Nat → Nat) × Nat × (Nat → Int32) × (Nat → Int32) × (Nat → Int32) × (Nat → Int32)) (ok := fun u9 => RA u9.1 u9.2.2.2.2.1 u9.2.2.2.2.2.1 p u9.2.2.2.2.2.2.1 u9.2.2.2.2.2.2.2.1 u9.2.2.2.2.2.2.2.2 ∧ u9.2.2.1.1 ≤ 6) (gu := fun u9 => [[(h, .inr (5, [.ref (Ad 0), .ref (At 0), .ref (As 0), .ref (Ac 0), .ref (u9.2.2.2.1 6 0)]))], dyW cyI Ad u9.1, shW cyI As u9.2.1, hiW cyI cyO u9.2.2.2.1 u9.2.2.1, [(ag, .inl (cyI, 6, .inl (u9.2.2.2.2.2.1)))], [(ap, .inl (cyI, 20, .inl (p)))], [(aw, .inl (cyI, 20, .inl (u9.2.2.2.2.2.2.1)))], [(aq, .inl (cyI, 20, .inl (u9.2.2.2.2.2.2.2.1)))], [(ar, .inl (cyI, 20, .inl (u9.2.2.2.2.2.2.2.2)))]]) ((dBack D, S, svS V D, svM L V, M, upd g 1 0, cpF D.2.2.2.2.2.1 r w, q, r)) hx hb hr hlocks hK hP hD hS (⟨hA0.off c_533, svS_le hV⟩) dL_others_637
                  · have c_562 : ¬ (D.2.2.2.2.2.1) ≤ (i) := fun h9 => c_562 ((nI_leI (a := D.2.2.2.2.2.1) (b := i) (by omega) (by omega)).mpr h9)
                    refine lv_iload hx hb dL_others_565 (lv_at hl 1 rfl) ?_
                    refine W_join (pc2 := 600) (v := .int (nI (if D.2.2.2.2.2.2.1 = 2 then (if q i = r i then 0 else if 0 ≤ r i then 1 else 0) else 0))) (l2 := ls) (rest := [.int (nI (cn))]) ?_ (fun j_600 => ?_)
                    · refine lv_iadd hx hb dL_others_600 ?_
                      refine top_i (x' := nI (cn + (if D.2.2.2.2.2.2.1 = 2 then (if q i = r i then 0 else if 0 ≤ r i then 1 else 0) else 0))) (nI_add (cn) (if D.2.2.2.2.2.2.1 = 2 then (if q i = r i then 0 else if 0 ≤ r i then 1 else 0) else 0)) ?_
                      refine lv_istore (lv' := [(11, .int (nI (cn + (if D.2.2.2.2.2.2.1 = 2 then (if q i = r i then 0 else if 0 ≤ r i then 1 else 0) else 0)))), (12, .int (nI (i))), (10, .int (nI (bt M m))), (9, .int (nI (m))), (8, .int (nI (how))), (0, .ref (h)), (1, .int (x)), (2, .int (y)), (3, .ref (ag)), (4, .ref (ap)), (5, .ref (aw)), (6, .ref (aq)), (7, .ref (ar))]) hx hb dL_others_601 hl (by decide) rfl (fun ls hl => ?_)
                      refine lv_aload hx hb dL_others_603 (lv_at hl 10 rfl) ?_
                      refine lv_iload hx hb dL_others_605 (lv_at hl 1 rfl) ?_
                      refine lv_aload hx hb dL_others_607 (lv_at hl 12 rfl) ?_
                      refine lv_iload hx hb dL_others_609 (lv_at hl 1 rfl) ?_
                      refine r_ild (k := i) (n := 20) (f := r) hx hb hK hP 97 0 rfl rfl (by omega) (by omega) rfl dL_others_611 ?_
                      refine r_ist (k := i) (n := 20) (f := cpF i r w) hx hb hK hP hD hS 95 0 rfl rfl (by omega) (by omega) rfl dL_others_612 (fun H locs hP hD hS => ?_)
                      have hP : va_P G vwCl (cat [[(h, .inr (5, [.ref (Ad 0), .ref (At 0), .ref (As 0), .ref (Ac 0), .ref (L 6 0)]))], dyW cyI Ad D, shW cyI As S, hiW cyI cyO L V, [(ag, .inl (cyI, 6, .inl (g)))], [(ap, .inl (cyI, 20, .inl (p)))], [(aw, .inl (cyI, 20, .inl (upd (cpF i r w) i (r i))))], [(aq, .inl (cyI, 20, .inl (q)))], [(ar, .inl (cyI, 20, .inl (r)))]]) H := hP
                      have hD : va_D A9 (cat [[(h, .inr (5, [.ref (Ad 0), .ref (At 0), .ref (As 0), .ref (Ac 0), .ref (L 6 0)]))], dyW cyI Ad D, shW cyI As S, hiW cyI cyO L V, [(ag, .inl (cyI, 6, .inl (g)))], [(ap, .inl (cyI, 20, .inl (p)))], [(aw, .inl (cyI, 20, .inl (upd (cpF i r w) i (r i))))], [(aq, .inl (cyI, 20, .inl (q)))], [(ar, .inl (cyI, 20, .inl (r)))]]) := hD
                      refine lv_iinc (v := nI (i + 1)) (lv' := [(12, .int (nI (i + 1))), (11, .int (nI (cn + (if D.2.2.2.2.2.2.1 = 2 then (if q i = r i then 0 else if 0 ≤ r i then 1 else 0) else 0)))), (10, .int (nI (bt M m))), (9, .int (nI (m))), (8, .int (nI (how))), (0, .ref (h)), (1, .int (x)), (2, .int (y)), (3, .ref (ag)), (4, .ref (ap)), (5, .ref (aw)), (6, .ref (aq)), (7, .ref (ar))]) hx hb dL_others_613 hl (k := 1) rfl (nI_add _ _) (by decide) rfl (fun ls hl => ?_)
                      refine lv_goto (tgt := 557) hx hb dL_others_616 (by decide) ?_
                      exact ih_557 (i + 1, cn + (if D.2.2.2.2.2.2.1 = 2 then (if q i = r i then 0 else if 0 ≤ r i then 1 else 0) else 0)) (by show (D.2.2.2.2.2.1 - (i + 1)) < (D.2.2.2.2.2.1 - i); omega) _ _ _ ⟨(show (i + 1) ≤ D.2.2.2.2.2.1 from by omega), (show (cn + (if D.2.2.2.2.2.2.1 = 2 then (if q i = r i then 0 else if 0 ≤ r i then 1 else 0) else 0)) = itr (i + 1) (coF D.2.2.2.2.2.2.1 q r) 0 from by show _ = coF D.2.2.2.2.2.2.1 q r i (itr i _ _); rw [← he]; exact co_add), hP, hD, hS, lv_sub hl [0, 1, 2, 3, 4, 5, 6, 7, 8, 9, 10, 11, 12] rfl⟩
                    · refine lv_aload_n hx hb dL_others_567 rfl (lv_at hl 8 rfl) ?_
                      refine lv_iconst (v := (1 : Int32)) hx hb dL_others_568 (by decide) ?_
                      refine r_ild (k := 1) (n := 6) (f := g) hx hb hK hP 93 0 rfl rfl (by omega) (by omega) rfl dL_others_569 ?_
                      refine top_i (x' := D.2.2.2.2.2.2.1) (hg1) ?_
                      refine lv_iconst (v := (2 : Int32)) hx hb dL_others_570 (by decide) ?_
                      refine lv_icmp_ne (tgt := 599) hx hb dL_others_571 (by decide) (fun c_571 => ?_) (fun c_571 => ?_)
                      · refine lv_iconst (v := (0 : Int32)) hx hb dL_others_599 (by decide) ?_
                        refine top_i (x' := nI (if D.2.2.2.2.2.2.1 = 2 then (if q i = r i then 0 else if 0 ≤ r i then 1 else 0) else 0)) (by first | (rw [if_neg c_571]; exact nI_01.1.symm) | (rw [if_pos c_571, if_pos c_584]; exact nI_01.1.symm) | (rw [if_pos c_571, if_neg c_584, if_neg (i_ltg c_592)]; exact nI_01.1.symm) | (rw [if_pos c_571, if_neg c_584, if_pos (i_gel c_592)]; exact nI_01.2.symm)) ?_
                        exact j_600
                      · refine lv_aload hx hb dL_others_574 (lv_at hl 11 rfl) ?_
                        refine lv_iload hx hb dL_others_576 (lv_at hl 0 rfl) ?_
                        refine r_ild (k := i) (n := 20) (f := q) hx hb hK hP 96 0 rfl rfl (by omega) (by omega) rfl dL_others_578 ?_
                        refine lv_aload hx hb dL_others_579 (lv_at hl 12 rfl) ?_
                        refine lv_iload hx hb dL_others_581 (lv_at hl 0 rfl) ?_
                        refine r_ild (k := i) (n := 20) (f := r) hx hb hK hP 97 0 rfl rfl (by omega) (by omega) rfl dL_others_583 ?_
                        refine lv_icmp_eq (tgt := 599) hx hb dL_others_584 (by decide) (fun c_584 => ?_) (fun c_584 => ?_)
                        · refine lv_iconst (v := (0 : Int32)) hx hb dL_others_599 (by decide) ?_
                          refine top_i (x' := nI (if D.2.2.2.2.2.2.1 = 2 then (if q i = r i then 0 else if 0 ≤ r i then 1 else 0) else 0)) (by first | (rw [if_neg c_571]; exact nI_01.1.symm) | (rw [if_pos c_571, if_pos c_584]; exact nI_01.1.symm) | (rw [if_pos c_571, if_neg c_584, if_neg (i_ltg c_592)]; exact nI_01.1.symm) | (rw [if_pos c_571, if_neg c_584, if_pos (i_gel c_592)]; exact nI_01.2.symm)) ?_
                          exact j_600
                        · refine lv_aload hx hb dL_others_587 (lv_at hl 12 rfl) ?_
                          refine lv_iload hx hb dL_others_589 (lv_at hl 0 rfl) ?_
                          refine r_ild (k := i) (n := 20) (f := r) hx hb hK hP 97 0 rfl rfl (by omega) (by omega) rfl dL_others_591 ?_
                          refine lv_if_lt (tgt := 599) hx hb dL_others_592 (by decide) (fun c_592 => ?_) (fun c_592 => ?_)
                          · refine lv_iconst (v := (0 : Int32)) hx hb dL_others_599 (by decide) ?_
                            refine top_i (x' := nI (if D.2.2.2.2.2.2.1 = 2 then (if q i = r i then 0 else if 0 ≤ r i then 1 else 0) else 0)) (by first | (rw [if_neg c_571]; exact nI_01.1.symm) | (rw [if_pos c_571, if_pos c_584]; exact nI_01.1.symm) | (rw [if_pos c_571, if_neg c_584, if_neg (i_ltg c_592)]; exact nI_01.1.symm) | (rw [if_pos c_571, if_neg c_584, if_pos (i_gel c_592)]; exact nI_01.2.symm)) ?_
                            exact j_600
                          · refine lv_iconst (v := (1 : Int32)) hx hb dL_others_595 (by decide) ?_
                            refine lv_goto (tgt := 600) hx hb dL_others_596 (by decide) ?_
                            refine top_i (x' := nI (if D.2.2.2.2.2.2.1 = 2 then (if q i = r i then 0 else if 0 ≤ r i then 1 else 0) else 0)) (by first | (rw [if_neg c_571]; exact nI_01.1.symm) | (rw [if_pos c_571, if_pos c_584]; exact nI_01.1.symm) | (rw [if_pos c_571, if_neg c_584, if_neg (i_ltg c_592)]; exact nI_01.1.symm) | (rw [if_pos c_571, if_neg c_584, if_pos (i_gel c_592)]; exact nI_01.2.symm)) ?_
                            exact j_600
                · refine lv_aload_n hx hb dL_others_536 rfl (lv_at hl 3 rfl) ?_
                  refine gHi (gs := [[(h, .inr (5, [.ref (Ad 0), .ref (At 0), .ref (As 0), .ref (Ac 0), .ref (L 6 0)]))], dyW cyI Ad D, shW cyI As S, hiW cyI cyO L V, [(ag, .inl (cyI, 6, .inl (g)))], [(ap, .inl (cyI, 20, .inl (p)))], [(aw, .inl (cyI, 20, .inl (w)))], [(aq, .inl (cyI, 20, .inl (q)))], [(ar, .inl (cyI, 20, .inl (r)))]]) (As := [.ref (h)]) (rest := []) ⟨hx, hb, hml, hown, hts⟩ (t_L_callOff_IS l G cyI cyO h Ad At As Ac L D (dho_f c_533) htr) (vx_cwSW 1 hts gL_others_L_callOff rfl rfl rfl (by decide +kernel) ⟨Nat.le_of_ble_eq_true rfl, Nat.le_of_ble_eq_true rfl⟩) hK hX hP hD hS hA [0, 1] rfl rfl (rfl : (2 : Nat) = 2) rfl hl.1 rfl (Nat.le_of_ble_eq_true rfl) dL_others_537 ⟨Nat.le_of_ble_eq_true rfl, Nat.le_of_ble_eq_true rfl⟩ (fun H locs hP hD hS => ?_)
                  have hP : va_P G vwCl (cat [[(h, .inr (5, [.ref (Ad 0), .ref (At 0), .ref (As 0), .ref (Ac 0), .ref (L 6 0)]))], dyW cyI Ad D, shW cyI As S, hiW cyI cyO L V, [(ag, .inl (cyI, 6, .inl (g)))], [(ap, .inl (cyI, 20, .inl (p)))], [(aw, .inl (cyI, 20, .inl (w)))], [(aq, .inl (cyI, 20, .inl (q)))], [(ar, .inl (cyI, 20, .inl (r)))]]) H := hP
                  have hD : va_D A9 (cat [[(h, .inr (5, [.ref (Ad 0), .ref (At 0), .ref (As 0), .ref (Ac 0), .ref (L 6 0)]))], dyW cyI Ad D, shW cyI As S, hiW cyI cyO L V, [(ag, .inl (cyI, 6, .inl (g)))], [(ap, .inl (cyI, 20, .inl (p)))], [(aw, .inl (cyI, 20, .inl (w)))], [(aq, .inl (cyI, 20, .inl (q)))], [(ar, .inl (cyI, 20, .inl (r)))]]) := hD
                  refine W.cs (cells' := 1) (slots' := 6) rfl rfl ?_
                  refine lv_bipush (v := (-33 : Int32)) hx hb dL_others_540 (by decide) ?_
                  refine lv_icmp_ne (tgt := 549) hx hb dL_others_542 (by decide) (fun c_542 => ?_) (fun c_542 => ?_)
                  · exact absurd c_542 (by decide)
                  · refine lv_iconst (v := (1 : Int32)) hx hb dL_others_545 (by decide) ?_
                    refine lv_goto (tgt := 550) hx hb dL_others_546 (by decide) ?_
                    refine W.widen (k := 4) (n := 38) (Nat.le_of_ble_eq_true rfl) (Nat.le_of_ble_eq_true rfl) ?_
                    exact end_g (U := DS × SS × HS × (Nat → Nat → Nat) × Nat × (Nat → Int32) × (Nat → Int32) × (Nat → Int32) × (Nat → Int32)) (ok := fun u9 => RA u9.1 u9.2.2.2.2.1 u9.2.2.2.2.2.1 p u9.2.2.2.2.2.2.1 u9.2.2.2.2.2.2.2.1 u9.2.2.2.2.2.2.2.2 ∧ u9.2.2.1.1 ≤ 6) (gu := fun u9 => [[(h, .inr (5, [.ref (Ad 0), .ref (At 0), .ref (As 0), .ref (Ac 0), .ref (u9.2.2.2.1 6 0)]))], dyW cyI Ad u9.1, shW cyI As u9.2.1, hiW cyI cyO u9.2.2.2.1 u9.2.2.1, [(ag, .inl (cyI, 6, .inl (u9.2.2.2.2.2.1)))], [(ap, .inl (cyI, 20, .inl (p)))], [(aw, .inl (cyI, 20, .inl (u9.2.2.2.2.2.2.1)))], [(aq, .inl (cyI, 20, .inl (u9.2.2.2.2.2.2.2.1)))], [(ar, .inl (cyI, 20, .inl (u9.2.2.2.2.2.2.2.2)))]]) ((D, S, V, L, M, g, w, q, r)) hx hb hr hlocks hK hP hD hS (⟨hA0, hV⟩) dL_others_550
          · have c_352 : ¬ (10) ≤ (how) := fun h9 => c_352 ((nI_leI (a := 10) (b := how) (by omega) (by omega)).mpr h9)
            refine lv_aload_n hx hb dL_others_355 rfl (lv_at hl 6 rfl) ?_
            refine lv_iconst (v := (1 : Int32)) hx hb dL_others_356 (by decide) ?_
            refine r_ild (k := 1) (n := 6) (f := g) hx hb hK hP 93 0 rfl rfl (by omega) (by omega) rfl dL_others_357 ?_
            refine top_i (x' := D.2.2.2.2.2.2.1) (hg1) ?_
            refine lv_if_ne (tgt := 385) hx hb dL_others_358 (by decide) (fun c_358 => ?_) (fun c_358 => ?_)
            · refine lv_iconst (v := (0 : Int32)) hx hb dL_others_385 (by decide) ?_
              refine lv_istore (lv' := [(11, .int ((0 : Int32))), (10, .int (nI (bt M m))), (9, .int (nI (m))), (8, .int (nI (how))), (0, .ref (h)), (1, .int (x)), (2, .int (y)), (3, .ref (ag)), (4, .ref (ap)), (5, .ref (aw)), (6, .ref (aq)), (7, .ref (ar))]) hx hb dL_others_386 hl (by decide) rfl (fun ls hl => ?_)
              refine lv_iconst (v := (0 : Int32)) hx hb dL_others_388 (by decide) ?_
              refine lv_istore (lv' := [(12, .int ((0 : Int32))), (11, .int ((0 : Int32))), (10, .int (nI (bt M m))), (9, .int (nI (m))), (8, .int (nI (how))), (0, .ref (h)), (1, .int (x)), (2, .int (y)), (3, .ref (ag)), (4, .ref (ap)), (5, .ref (aw)), (6, .ref (aq)), (7, .ref (ar))]) hx hb dL_others_389 hl (by decide) rfl (fun ls hl => ?_)
              refine W_loop (α := Nat × (Nat → Int32) × Nat) (I := fun a9 H locs ls => (a9.1 ≤ D.2.2.2.2.2.1) ∧ ((a9.2.1, a9.2.2) = itr a9.1 (hoF D.2.2.2.2.2.2.1 q r) (w, 0)) ∧ va_P G vwCl (cat [[(h, .inr (5, [.ref (Ad 0), .ref (At 0), .ref (As 0), .ref (Ac 0), .ref (L 6 0)]))], dyW cyI Ad D, shW cyI As S, hiW cyI cyO L V, [(ag, .inl (cyI, 6, .inl (g)))], [(ap, .inl (cyI, 20, .inl (p)))], [(aw, .inl (cyI, 20, .inl (a9.2.1)))], [(aq, .inl (cyI, 20, .inl (q)))], [(ar, .inl (cyI, 20, .inl (r)))]]) H ∧ va_D A9 (cat [[(h, .inr (5, [.ref (Ad 0), .ref (At 0), .ref (As 0), .ref (Ac 0), .ref (L 6 0)]))], dyW cyI Ad D, shW cyI As S, hiW cyI cyO L V, [(ag, .inl (cyI, 6, .inl (g)))], [(ap, .inl (cyI, 20, .inl (p)))], [(aw, .inl (cyI, 20, .inl (a9.2.1)))], [(aq, .inl (cyI, 20, .inl (q)))], [(ar, .inl (cyI, 20, .inl (r)))]]) ∧ va_S A9 s9.heap H locs ∧ lv_has ls 14 [(12, .int (nI (a9.1))), (11, .int (nI (a9.2.2))), (10, .int (nI (bt M m))), (9, .int (nI (m))), (8, .int (nI (how))), (0, .ref (h)), (1, .int (x)), (2, .int (y)), (3, .ref (ag)), (4, .ref (ap)), (5, .ref (aw)), (6, .ref (aq)), (7, .ref (ar))]) (μ := fun a9 => D.2.2.2.2.2.1 - a9.1) (st := fun a9 => []) ?_ (0, w, 0) _ _ _ ⟨(show 0 ≤ D.2.2.2.2.2.1 from Nat.zero_le _), (show (w, 0) = itr 0 (hoF D.2.2.2.2.2.2.1 q r) (w, 0) from rfl), hP, hD, hS, lv_sub hl [0, 1, 2, 3, 4, 5, 6, 7, 8, 9, 10, 11, 12] rfl⟩
              intro a9 ih_391 H locs ls hI
              obtain ⟨i, w1, cn⟩ := a9
              obtain ⟨hi9, he9, hP9, hD9, hS9, hl9⟩ := hI
              have hi : i ≤ D.2.2.2.2.2.1 := hi9
              have he : (w1, cn) = itr i (hoF D.2.2.2.2.2.2.1 q r) (w, 0) := he9
              have hP : va_P G vwCl (cat [[(h, .inr (5, [.ref (Ad 0), .ref (At 0), .ref (As 0), .ref (Ac 0), .ref (L 6 0)]))], dyW cyI Ad D, shW cyI As S, hiW cyI cyO L V, [(ag, .inl (cyI, 6, .inl (g)))], [(ap, .inl (cyI, 20, .inl (p)))], [(aw, .inl (cyI, 20, .inl (w1)))], [(aq, .inl (cyI, 20, .inl (q)))], [(ar, .inl (cyI, 20, .inl (r)))]]) H := hP9
              have hD : va_D A9 (cat [[(h, .inr (5, [.ref (Ad 0), .ref (At 0), .ref (As 0), .ref (Ac 0), .ref (L 6 0)]))], dyW cyI Ad D, shW cyI As S, hiW cyI cyO L V, [(ag, .inl (cyI, 6, .inl (g)))], [(ap, .inl (cyI, 20, .inl (p)))], [(aw, .inl (cyI, 20, .inl (w1)))], [(aq, .inl (cyI, 20, .inl (q)))], [(ar, .inl (cyI, 20, .inl (r)))]]) := hD9
              have hS := hS9
              have hl : lv_has ls 14 [(12, .int (nI (i))), (11, .int (nI (cn))), (10, .int (nI (bt M m))), (9, .int (nI (m))), (8, .int (nI (how))), (0, .ref (h)), (1, .int (x)), (2, .int (y)), (3, .ref (ag)), (4, .ref (ap)), (5, .ref (aw)), (6, .ref (aq)), (7, .ref (ar))] := hl9
              clear hi9 he9 hP9 hD9 hS9 hl9
              refine lv_iload hx hb dL_others_391 (lv_at hl 0 rfl) ?_
              refine lv_aload_n hx hb dL_others_393 rfl (lv_at hl 8 rfl) ?_
              refine lv_iconst (v := (0 : Int32)) hx hb dL_others_394 (by decide) ?_
              refine r_ild (k := 0) (n := 6) (f := g) hx hb hK hP 93 0 rfl rfl (by omega) (by omega) rfl dL_others_395 ?_
              refine top_i (x' := nI (D.2.2.2.2.2.1)) (hg0) ?_
              refine lv_icmp_ge (tgt := 467) hx hb dL_others_396 (by decide) (fun c_396 => ?_) (fun c_396 => ?_)
              · have c_396 : (D.2.2.2.2.2.1) ≤ (i) := (nI_leI (a := D.2.2.2.2.2.1) (b := i) (by omega) (by omega)).mp c_396
                obtain rfl : D.2.2.2.2.2.1 = i := by omega
                have e1 : w1 = (itr D.2.2.2.2.2.1 (hoF D.2.2.2.2.2.2.1 q r) (w, 0)).1 := congrArg Prod.fst he
                have e2 : cn = (itr D.2.2.2.2.2.1 (hoF D.2.2.2.2.2.2.1 q r) (w, 0)).2 := congrArg Prod.snd he
                subst e1 e2
                refine lv_aload_n hx hb dL_others_467 rfl (lv_at hl 8 rfl) ?_
                refine lv_iconst (v := (2 : Int32)) hx hb dL_others_468 (by decide) ?_
                refine lv_dup2_11 hx hb dL_others_469 rfl rfl ?_
                refine r_ild (k := 2) (n := 6) (f := g) hx hb hK hP 93 0 rfl rfl (by omega) (by omega) rfl dL_others_470 ?_
                refine top_i (x' := g 2) (rfl) ?_
                refine W_join (pc2 := 484) (v := .int (if D.2.2.2.2.2.2.1 = 2 then nI (itr D.2.2.2.2.2.1 (hoF D.2.2.2.2.2.2.1 q r) (w, 0)).2 else 0)) (l2 := ls) (rest := [.int (g 2), .int ((2 : Int32)), .ref (ag)]) ?_ (fun j_484 => ?_)
                · refine lv_iadd hx hb dL_others_484 ?_
                  refine r_ist (k := 2) (n := 6) (f := g) hx hb hK hP hD hS 93 0 rfl rfl (by omega) (by omega) rfl dL_others_485 (fun H locs hP hD hS => ?_)
                  have hP : va_P G vwCl (cat [[(h, .inr (5, [.ref (Ad 0), .ref (At 0), .ref (As 0), .ref (Ac 0), .ref (L 6 0)]))], dyW cyI Ad D, shW cyI As S, hiW cyI cyO L V, [(ag, .inl (cyI, 6, .inl (upd g 2 ((g 2) + (if D.2.2.2.2.2.2.1 = 2 then nI (itr D.2.2.2.2.2.1 (hoF D.2.2.2.2.2.2.1 q r) (w, 0)).2 else 0)))))], [(ap, .inl (cyI, 20, .inl (p)))], [(aw, .inl (cyI, 20, .inl ((itr D.2.2.2.2.2.1 (hoF D.2.2.2.2.2.2.1 q r) (w, 0)).1)))], [(aq, .inl (cyI, 20, .inl (q)))], [(ar, .inl (cyI, 20, .inl (r)))]]) H := hP
                  have hD : va_D A9 (cat [[(h, .inr (5, [.ref (Ad 0), .ref (At 0), .ref (As 0), .ref (Ac 0), .ref (L 6 0)]))], dyW cyI Ad D, shW cyI As S, hiW cyI cyO L V, [(ag, .inl (cyI, 6, .inl (upd g 2 ((g 2) + (if D.2.2.2.2.2.2.1 = 2 then nI (itr D.2.2.2.2.2.1 (hoF D.2.2.2.2.2.2.1 q r) (w, 0)).2 else 0)))))], [(ap, .inl (cyI, 20, .inl (p)))], [(aw, .inl (cyI, 20, .inl ((itr D.2.2.2.2.2.1 (hoF D.2.2.2.2.2.2.1 q r) (w, 0)).1)))], [(aq, .inl (cyI, 20, .inl (q)))], [(ar, .inl (cyI, 20, .inl (r)))]]) := hD
                  refine lv_aload_n hx hb dL_others_486 rfl (lv_at hl 8 rfl) ?_
                  refine lv_iconst (v := (1 : Int32)) hx hb dL_others_487 (by decide) ?_
                  refine W_join (pc2 := 500) (v := .int (if D.2.2.2.2.2.2.1 = 1 then 2 else 0)) (l2 := ls) (rest := [.int ((1 : Int32)), .ref (ag)]) ?_ (fun j_500 => ?_)
                  · refine r_ist (k := 1) (n := 6) (f := upd g 2 ((g 2) + (if D.2.2.2.2.2.2.1 = 2 then nI (itr D.2.2.2.2.2.1 (hoF D.2.2.2.2.2.2.1 q r) (w, 0)).2 else 0))) hx hb hK hP hD hS 93 0 rfl rfl (by omega) (by omega) rfl dL_others_500 (fun H locs hP hD hS => ?_)
                    have hP : va_P G vwCl (cat [[(h, .inr (5, [.ref (Ad 0), .ref (At 0), .ref (As 0), .ref (Ac 0), .ref (L 6 0)]))], dyW cyI Ad D, shW cyI As S, hiW cyI cyO L V, [(ag, .inl (cyI, 6, .inl (upd (upd g 2 ((g 2) + (if D.2.2.2.2.2.2.1 = 2 then nI (itr D.2.2.2.2.2.1 (hoF D.2.2.2.2.2.2.1 q r) (w, 0)).2 else 0))) 1 (if D.2.2.2.2.2.2.1 = 1 then 2 else 0))))], [(ap, .inl (cyI, 20, .inl (p)))], [(aw, .inl (cyI, 20, .inl ((itr D.2.2.2.2.2.1 (hoF D.2.2.2.2.2.2.1 q r) (w, 0)).1)))], [(aq, .inl (cyI, 20, .inl (q)))], [(ar, .inl (cyI, 20, .inl (r)))]]) H := hP
                    have hD : va_D A9 (cat [[(h, .inr (5, [.ref (Ad 0), .ref (At 0), .ref (As 0), .ref (Ac 0), .ref (L 6 0)]))], dyW cyI Ad D, shW cyI As S, hiW cyI cyO L V, [(ag, .inl (cyI, 6, .inl (upd (upd g 2 ((g 2) + (if D.2.2.2.2.2.2.1 = 2 then nI (itr D.2.2.2.2.2.1 (hoF D.2.2.2.2.2.2.1 q r) (w, 0)).2 else 0))) 1 (if D.2.2.2.2.2.2.1 = 1 then 2 else 0))))], [(ap, .inl (cyI, 20, .inl (p)))], [(aw, .inl (cyI, 20, .inl ((itr D.2.2.2.2.2.1 (hoF D.2.2.2.2.2.2.1 q r) (w, 0)).1)))], [(aq, .inl (cyI, 20, .inl (q)))], [(ar, .inl (cyI, 20, .inl (r)))]]) := hD
                    refine lv_aload_n hx hb dL_others_501 rfl (lv_at hl 5 rfl) ?_
                    refine gHi (gs := [[(h, .inr (5, [.ref (Ad 0), .ref (At 0), .ref (As 0), .ref (Ac 0), .ref (L 6 0)]))], dyW cyI Ad D, shW cyI As S, hiW cyI cyO L V, [(ag, .inl (cyI, 6, .inl (upd (upd g 2 ((g 2) + (if D.2.2.2.2.2.2.1 = 2 then nI (itr D.2.2.2.2.2.1 (hoF D.2.2.2.2.2.2.1 q r) (w, 0)).2 else 0))) 1 (if D.2.2.2.2.2.2.1 = 1 then 2 else 0))))], [(ap, .inl (cyI, 20, .inl (p)))], [(aw, .inl (cyI, 20, .inl ((itr D.2.2.2.2.2.1 (hoF D.2.2.2.2.2.2.1 q r) (w, 0)).1)))], [(aq, .inl (cyI, 20, .inl (q)))], [(ar, .inl (cyI, 20, .inl (r)))]]) (As := [.ref (h)]) (rest := []) ⟨hx, hb, hml, hown, hts⟩ (n_L_handOver l G cyI cyO h Ad At As Ac L D V (by omega) (by omega) (dho_t c_358)) (vx_cwSW 1 hts gL_others_L_handOver rfl rfl rfl (by decide +kernel) ⟨Nat.le_of_ble_eq_true rfl, Nat.le_of_ble_eq_true rfl⟩) hK hX hP hD hS hA [0, 1, 3] rfl rfl (rfl : (3 : Nat) = 3) rfl hl.1 rfl (Nat.le_of_ble_eq_true rfl) dL_others_502 ⟨Nat.le_of_ble_eq_true rfl, Nat.le_of_ble_eq_true rfl⟩ (fun H locs hP hD hS => ?_)
                    have hP : va_P G vwCl (cat [[(h, .inr (5, [.ref (Ad 0), .ref (At 0), .ref (As 0), .ref (Ac 0), .ref (L 6 0)]))], dyW cyI Ad (dNext D), shW cyI As S, hiW cyI cyO (svM L V) (svS V D), [(ag, .inl (cyI, 6, .inl (upd (upd g 2 ((g 2) + (if D.2.2.2.2.2.2.1 = 2 then nI (itr D.2.2.2.2.2.1 (hoF D.2.2.2.2.2.2.1 q r) (w, 0)).2 else 0))) 1 (if D.2.2.2.2.2.2.1 = 1 then 2 else 0))))], [(ap, .inl (cyI, 20, .inl (p)))], [(aw, .inl (cyI, 20, .inl ((itr D.2.2.2.2.2.1 (hoF D.2.2.2.2.2.2.1 q r) (w, 0)).1)))], [(aq, .inl (cyI, 20, .inl (q)))], [(ar, .inl (cyI, 20, .inl (r)))]]) H := hP
                    have hD : va_D A9 (cat [[(h, .inr (5, [.ref (Ad 0), .ref (At 0), .ref (As 0), .ref (Ac 0), .ref (L 6 0)]))], dyW cyI Ad (dNext D), shW cyI As S, hiW cyI cyO (svM L V) (svS V D), [(ag, .inl (cyI, 6, .inl (upd (upd g 2 ((g 2) + (if D.2.2.2.2.2.2.1 = 2 then nI (itr D.2.2.2.2.2.1 (hoF D.2.2.2.2.2.2.1 q r) (w, 0)).2 else 0))) 1 (if D.2.2.2.2.2.2.1 = 1 then 2 else 0))))], [(ap, .inl (cyI, 20, .inl (p)))], [(aw, .inl (cyI, 20, .inl ((itr D.2.2.2.2.2.1 (hoF D.2.2.2.2.2.2.1 q r) (w, 0)).1)))], [(aq, .inl (cyI, 20, .inl (q)))], [(ar, .inl (cyI, 20, .inl (r)))]]) := hD
                    refine W.cs (cells' := 1) (slots' := 6) rfl rfl ?_
                    have hcn := hoF_le (st := D.2.2.2.2.2.2.1) (q := q) (r := r) (w := w) D.2.2.2.2.2.1
                    refine top_i (x' := nI ((itr D.2.2.2.2.2.1 (hoF D.2.2.2.2.2.2.1 q r) (w, 0)).2)) (congrArg nI (ho_res hA0 c_358)) ?_
                    refine lv_iload hx hb dL_others_505 (lv_at hl 1 rfl) ?_
                    refine lv_icmp_ne (tgt := 514) hx hb dL_others_507 (by decide) (fun c_507 => ?_) (fun c_507 => ?_)
                    · have c_507 : ¬ ((itr D.2.2.2.2.2.1 (hoF D.2.2.2.2.2.2.1 q r) (w, 0)).2) = ((itr D.2.2.2.2.2.1 (hoF D.2.2.2.2.2.2.1 q r) (w, 0)).2) := fun h9 => c_507 ((nI_eq (a := (itr D.2.2.2.2.2.1 (hoF D.2.2.2.2.2.2.1 q r) (w, 0)).2) (b := (itr D.2.2.2.2.2.1 (hoF D.2.2.2.2.2.2.1 q r) (w, 0)).2) (by omega) (by omega)).mpr h9)
                      exact absurd rfl c_507
                    · have c_507 : ((itr D.2.2.2.2.2.1 (hoF D.2.2.2.2.2.2.1 q r) (w, 0)).2) = ((itr D.2.2.2.2.2.1 (hoF D.2.2.2.2.2.2.1 q r) (w, 0)).2) := (nI_eq (a := (itr D.2.2.2.2.2.1 (hoF D.2.2.2.2.2.2.1 q r) (w, 0)).2) (b := (itr D.2.2.2.2.2.1 (hoF D.2.2.2.2.2.2.1 q r) (w, 0)).2) (by omega) (by omega)).mp c_507
                      refine lv_iconst (v := (1 : Int32)) hx hb dL_others_510 (by decide) ?_
                      refine lv_goto (tgt := 515) hx hb dL_others_511 (by decide) ?_
                      refine W.widen (k := 4) (n := 38) (Nat.le_of_ble_eq_true rfl) (Nat.le_of_ble_eq_true rfl) ?_
                      exact end_g (U := DS × SS × HS × (Nat → Nat → Nat) × Nat × (Nat → Int32) × (Nat → Int32) × (Nat → Int32) × (Nat → Int32)) (ok := fun u9 => RA u9.1 u9.2.2.2.2.1 u9.2.2.2.2.2.1 p u9.2.2.2.2.2.2.1 u9.2.2.2.2.2.2.2.1 u9.2.2.2.2.2.2.2.2 ∧ u9.2.2.1.1 ≤ 6) (gu := fun u9 => [[(h, .inr (5, [.ref (Ad 0), .ref (At 0), .ref (As 0), .ref (Ac 0), .ref (u9.2.2.2.1 6 0)]))], dyW cyI Ad u9.1, shW cyI As u9.2.1, hiW cyI cyO u9.2.2.2.1 u9.2.2.1, [(ag, .inl (cyI, 6, .inl (u9.2.2.2.2.2.1)))], [(ap, .inl (cyI, 20, .inl (p)))], [(aw, .inl (cyI, 20, .inl (u9.2.2.2.2.2.2.1)))], [(aq, .inl (cyI, 20, .inl (u9.2.2.2.2.2.2.2.1)))], [(ar, .inl (cyI, 20, .inl (u9.2.2.2.2.2.2.2.2)))]]) ((dNext D, S, svS V D, svM L V, M, hoG g D.2.2.2.2.2.2.1 (itr D.2.2.2.2.2.1 (hoF D.2.2.2.2.2.2.1 q r) (w, 0)).2, (itr D.2.2.2.2.2.1 (hoF D.2.2.2.2.2.2.1 q r) (w, 0)).1, q, r)) hx hb hr hlocks hK hP hD hS (⟨hA0.hand c_358, svS_le hV⟩) dL_others_515
                  · refine lv_aload_n hx hb dL_others_488 rfl (lv_at hl 8 rfl) ?_
                    refine lv_iconst (v := (1 : Int32)) hx hb dL_others_489 (by decide) ?_
                    refine r_ild (k := 1) (n := 6) (f := upd g 2 ((g 2) + (if D.2.2.2.2.2.2.1 = 2 then nI (itr D.2.2.2.2.2.1 (hoF D.2.2.2.2.2.2.1 q r) (w, 0)).2 else 0))) hx hb hK hP 93 0 rfl rfl (by omega) (by omega) rfl dL_others_490 ?_
                    refine top_i (x' := D.2.2.2.2.2.2.1) (by rw [pk_un (by decide)]; exact hg1) ?_
                    refine lv_iconst (v := (1 : Int32)) hx hb dL_others_491 (by decide) ?_
                    refine lv_icmp_ne (tgt := 499) hx hb dL_others_492 (by decide) (fun c_492 => ?_) (fun c_492 => ?_)
                    · refine lv_iconst (v := (0 : Int32)) hx hb dL_others_499 (by decide) ?_
                      refine top_i (x' := if D.2.2.2.2.2.2.1 = 1 then 2 else 0) (by first | rw [if_pos c_492] | rw [if_neg c_492]) ?_
                      exact j_500
                    · refine lv_iconst (v := (2 : Int32)) hx hb dL_others_495 (by decide) ?_
                      refine lv_goto (tgt := 500) hx hb dL_others_496 (by decide) ?_
                      refine top_i (x' := if D.2.2.2.2.2.2.1 = 1 then 2 else 0) (by first | rw [if_pos c_492] | rw [if_neg c_492]) ?_
                      exact j_500
                · refine lv_aload_n hx hb dL_others_471 rfl (lv_at hl 8 rfl) ?_
                  refine lv_iconst (v := (1 : Int32)) hx hb dL_others_472 (by decide) ?_
                  refine r_ild (k := 1) (n := 6) (f := g) hx hb hK hP 93 0 rfl rfl (by omega) (by omega) rfl dL_others_473 ?_
                  refine top_i (x' := D.2.2.2.2.2.2.1) (hg1) ?_
                  refine lv_iconst (v := (2 : Int32)) hx hb dL_others_474 (by decide) ?_
                  refine lv_icmp_ne (tgt := 483) hx hb dL_others_475 (by decide) (fun c_475 => ?_) (fun c_475 => ?_)
                  · refine lv_iconst (v := (0 : Int32)) hx hb dL_others_483 (by decide) ?_
                    refine top_i (x' := if D.2.2.2.2.2.2.1 = 2 then nI (itr D.2.2.2.2.2.1 (hoF D.2.2.2.2.2.2.1 q r) (w, 0)).2 else 0) (by first | rw [if_pos c_475] | rw [if_neg c_475]) ?_
                    exact j_484
                  · refine lv_iload hx hb dL_others_478 (lv_at hl 1 rfl) ?_
                    refine lv_goto (tgt := 484) hx hb dL_others_480 (by decide) ?_
                    refine top_i (x' := if D.2.2.2.2.2.2.1 = 2 then nI (itr D.2.2.2.2.2.1 (hoF D.2.2.2.2.2.2.1 q r) (w, 0)).2 else 0) (by first | rw [if_pos c_475] | rw [if_neg c_475]) ?_
                    exact j_484
              · have c_396 : ¬ (D.2.2.2.2.2.1) ≤ (i) := fun h9 => c_396 ((nI_leI (a := D.2.2.2.2.2.1) (b := i) (by omega) (by omega)).mpr h9)
                refine lv_aload hx hb dL_others_399 (lv_at hl 11 rfl) ?_
                refine lv_iload hx hb dL_others_401 (lv_at hl 0 rfl) ?_
                refine r_ild (k := i) (n := 20) (f := q) hx hb hK hP 96 0 rfl rfl (by omega) (by omega) rfl dL_others_403 ?_
                refine lv_aload hx hb dL_others_404 (lv_at hl 12 rfl) ?_
                refine lv_iload hx hb dL_others_406 (lv_at hl 0 rfl) ?_
                refine r_ild (k := i) (n := 20) (f := r) hx hb hK hP 97 0 rfl rfl (by omega) (by omega) rfl dL_others_408 ?_
                refine lv_icmp_ne (tgt := 415) hx hb dL_others_409 (by decide) (fun c_409 => ?_) (fun c_409 => ?_)
                · refine lv_iload hx hb dL_others_415 (lv_at hl 1 rfl) ?_
                  refine W_join (pc2 := 437) (v := .int (nI (if D.2.2.2.2.2.2.1 = 2 then 1 else if 0 ≤ r i then 1 else 0))) (l2 := ls) (rest := [.int (nI (cn))]) ?_ (fun j_437 => ?_)
                  · refine lv_iadd hx hb dL_others_437 ?_
                    refine top_i (x' := nI (cn + (if D.2.2.2.2.2.2.1 = 2 then 1 else if 0 ≤ r i then 1 else 0))) (nI_add (cn) (if D.2.2.2.2.2.2.1 = 2 then 1 else if 0 ≤ r i then 1 else 0)) ?_
                    refine lv_istore (lv' := [(11, .int (nI (cn + (if D.2.2.2.2.2.2.1 = 2 then 1 else if 0 ≤ r i then 1 else 0)))), (12, .int (nI (i))), (10, .int (nI (bt M m))), (9, .int (nI (m))), (8, .int (nI (how))), (0, .ref (h)), (1, .int (x)), (2, .int (y)), (3, .ref (ag)), (4, .ref (ap)), (5, .ref (aw)), (6, .ref (aq)), (7, .ref (ar))]) hx hb dL_others_438 hl (by decide) rfl (fun ls hl => ?_)
                    refine lv_aload hx hb dL_others_440 (lv_at hl 10 rfl) ?_
                    refine lv_iload hx hb dL_others_442 (lv_at hl 1 rfl) ?_
                    refine W_join (pc2 := 460) (v := .int (if D.2.2.2.2.2.2.1 = 2 then q i else -1)) (l2 := ls) (rest := [.int (nI (i)), .ref (aw)]) ?_ (fun j_460 => ?_)
                    · refine r_ist (k := i) (n := 20) (f := w1) hx hb hK hP hD hS 95 0 rfl rfl (by omega) (by omega) rfl dL_others_460 (fun H locs hP hD hS => ?_)
                      have hP : va_P G vwCl (cat [[(h, .inr (5, [.ref (Ad 0), .ref (At 0), .ref (As 0), .ref (Ac 0), .ref (L 6 0)]))], dyW cyI Ad D, shW cyI As S, hiW cyI cyO L V, [(ag, .inl (cyI, 6, .inl (g)))], [(ap, .inl (cyI, 20, .inl (p)))], [(aw, .inl (cyI, 20, .inl (upd w1 i (if D.2.2.2.2.2.2.1 = 2 then q i else -1))))], [(aq, .inl (cyI, 20, .inl (q)))], [(ar, .inl (cyI, 20, .inl (r)))]]) H := hP
                      have hD : va_D A9 (cat [[(h, .inr (5, [.ref (Ad 0), .ref (At 0), .ref (As 0), .ref (Ac 0), .ref (L 6 0)]))], dyW cyI Ad D, shW cyI As S, hiW cyI cyO L V, [(ag, .inl (cyI, 6, .inl (g)))], [(ap, .inl (cyI, 20, .inl (p)))], [(aw, .inl (cyI, 20, .inl (upd w1 i (if D.2.2.2.2.2.2.1 = 2 then q i else -1))))], [(aq, .inl (cyI, 20, .inl (q)))], [(ar, .inl (cyI, 20, .inl (r)))]]) := hD
                      refine lv_iinc (v := nI (i + 1)) (lv' := [(12, .int (nI (i + 1))), (11, .int (nI (cn + (if D.2.2.2.2.2.2.1 = 2 then 1 else if 0 ≤ r i then 1 else 0)))), (10, .int (nI (bt M m))), (9, .int (nI (m))), (8, .int (nI (how))), (0, .ref (h)), (1, .int (x)), (2, .int (y)), (3, .ref (ag)), (4, .ref (ap)), (5, .ref (aw)), (6, .ref (aq)), (7, .ref (ar))]) hx hb dL_others_461 hl (k := 1) rfl (nI_add _ _) (by decide) rfl (fun ls hl => ?_)
                      refine lv_goto (tgt := 391) hx hb dL_others_464 (by decide) ?_
                      exact ih_391 (i + 1, upd w1 i (if D.2.2.2.2.2.2.1 = 2 then q i else -1), cn + (if D.2.2.2.2.2.2.1 = 2 then 1 else if 0 ≤ r i then 1 else 0)) (by show (D.2.2.2.2.2.1 - (i + 1)) < (D.2.2.2.2.2.1 - i); omega) _ _ _ ⟨(show (i + 1) ≤ D.2.2.2.2.2.1 from by omega), (show ((upd w1 i (if D.2.2.2.2.2.2.1 = 2 then q i else -1)), (cn + (if D.2.2.2.2.2.2.1 = 2 then 1 else if 0 ≤ r i then 1 else 0))) = itr (i + 1) (hoF D.2.2.2.2.2.2.1 q r) (w, 0) from by show _ = hoF D.2.2.2.2.2.2.1 q r i (itr i _ _); rw [← he]; unfold hoF; first | rw [if_neg c_409] | rw [if_pos c_409]), hP, hD, hS, lv_sub hl [0, 1, 2, 3, 4, 5, 6, 7, 8, 9, 10, 11, 12] rfl⟩
                    · refine lv_aload_n hx hb dL_others_444 rfl (lv_at hl 8 rfl) ?_
                      refine lv_iconst (v := (1 : Int32)) hx hb dL_others_445 (by decide) ?_
                      refine r_ild (k := 1) (n := 6) (f := g) hx hb hK hP 93 0 rfl rfl (by omega) (by omega) rfl dL_others_446 ?_
                      refine top_i (x' := D.2.2.2.2.2.2.1) (hg1) ?_
                      refine lv_iconst (v := (2 : Int32)) hx hb dL_others_447 (by decide) ?_
                      refine lv_icmp_ne (tgt := 459) hx hb dL_others_448 (by decide) (fun c_448 => ?_) (fun c_448 => ?_)
                      · refine lv_iconst (v := (-1 : Int32)) hx hb dL_others_459 (by decide) ?_
                        refine top_i (x' := if D.2.2.2.2.2.2.1 = 2 then q i else -1) (by first | rw [if_pos c_448] | rw [if_neg c_448]) ?_
                        exact j_460
                      · refine lv_aload hx hb dL_others_451 (lv_at hl 11 rfl) ?_
                        refine lv_iload hx hb dL_others_453 (lv_at hl 1 rfl) ?_
                        refine r_ild (k := i) (n := 20) (f := q) hx hb hK hP 96 0 rfl rfl (by omega) (by omega) rfl dL_others_455 ?_
                        refine lv_goto (tgt := 460) hx hb dL_others_456 (by decide) ?_
                        refine top_i (x' := if D.2.2.2.2.2.2.1 = 2 then q i else -1) (by first | rw [if_pos c_448] | rw [if_neg c_448]) ?_
                        exact j_460
                  · refine lv_aload_n hx hb dL_others_417 rfl (lv_at hl 8 rfl) ?_
                    refine lv_iconst (v := (1 : Int32)) hx hb dL_others_418 (by decide) ?_
                    refine r_ild (k := 1) (n := 6) (f := g) hx hb hK hP 93 0 rfl rfl (by omega) (by omega) rfl dL_others_419 ?_
                    refine top_i (x' := D.2.2.2.2.2.2.1) (hg1) ?_
                    refine lv_iconst (v := (2 : Int32)) hx hb dL_others_420 (by decide) ?_
                    refine lv_icmp_eq (tgt := 432) hx hb dL_others_421 (by decide) (fun c_421 => ?_) (fun c_421 => ?_)
                    · refine lv_iconst (v := (1 : Int32)) hx hb dL_others_432 (by decide) ?_
                      refine lv_goto (tgt := 437) hx hb dL_others_433 (by decide) ?_
                      refine top_i (x' := nI (if D.2.2.2.2.2.2.1 = 2 then 1 else if 0 ≤ r i then 1 else 0)) (by first | (rw [if_pos c_421]; exact nI_01.2.symm) | (rw [if_neg c_421, if_pos (i_gel c_429)]; exact nI_01.2.symm) | (rw [if_neg c_421, if_neg (i_ltg c_429)]; exact nI_01.1.symm)) ?_
                      exact j_437
                    · refine lv_aload hx hb dL_others_424 (lv_at hl 12 rfl) ?_
                      refine lv_iload hx hb dL_others_426 (lv_at hl 0 rfl) ?_
                      refine r_ild (k := i) (n := 20) (f := r) hx hb hK hP 97 0 rfl rfl (by omega) (by omega) rfl dL_others_428 ?_
                      refine lv_if_lt (tgt := 436) hx hb dL_others_429 (by decide) (fun c_429 => ?_) (fun c_429 => ?_)
                      · refine lv_iconst (v := (0 : Int32)) hx hb dL_others_436 (by decide) ?_
                        refine top_i (x' := nI (if D.2.2.2.2.2.2.1 = 2 then 1 else if 0 ≤ r i then 1 else 0)) (by first | (rw [if_pos c_421]; exact nI_01.2.symm) | (rw [if_neg c_421, if_pos (i_gel c_429)]; exact nI_01.2.symm) | (rw [if_neg c_421, if_neg (i_ltg c_429)]; exact nI_01.1.symm)) ?_
                        exact j_437
                      · refine lv_iconst (v := (1 : Int32)) hx hb dL_others_432 (by decide) ?_
                        refine lv_goto (tgt := 437) hx hb dL_others_433 (by decide) ?_
                        refine top_i (x' := nI (if D.2.2.2.2.2.2.1 = 2 then 1 else if 0 ≤ r i then 1 else 0)) (by first | (rw [if_pos c_421]; exact nI_01.2.symm) | (rw [if_neg c_421, if_pos (i_gel c_429)]; exact nI_01.2.symm) | (rw [if_neg c_421, if_neg (i_ltg c_429)]; exact nI_01.1.symm)) ?_
                        exact j_437
                · refine lv_goto (tgt := 461) hx hb dL_others_412 (by decide) ?_
                  refine lv_iinc (v := nI (i + 1)) (lv' := [(12, .int (nI (i + 1))), (11, .int (nI (cn))), (10, .int (nI (bt M m))), (9, .int (nI (m))), (8, .int (nI (how))), (0, .ref (h)), (1, .int (x)), (2, .int (y)), (3, .ref (ag)), (4, .ref (ap)), (5, .ref (aw)), (6, .ref (aq)), (7, .ref (ar))]) hx hb dL_others_461 hl (k := 0) rfl (nI_add _ _) (by decide) rfl (fun ls hl => ?_)
                  refine lv_goto (tgt := 391) hx hb dL_others_464 (by decide) ?_
                  exact ih_391 (i + 1, w1, cn) (by show (D.2.2.2.2.2.1 - (i + 1)) < (D.2.2.2.2.2.1 - i); omega) _ _ _ ⟨(show (i + 1) ≤ D.2.2.2.2.2.1 from by omega), (show (w1, cn) = itr (i + 1) (hoF D.2.2.2.2.2.2.1 q r) (w, 0) from by show _ = hoF D.2.2.2.2.2.2.1 q r i (itr i _ _); rw [← he]; unfold hoF; first | rw [if_neg c_409] | rw [if_pos c_409]), hP, hD, hS, lv_sub hl [0, 1, 2, 3, 4, 5, 6, 7, 8, 9, 10, 11, 12] rfl⟩
            · refine lv_aload_n hx hb dL_others_361 rfl (lv_at hl 3 rfl) ?_
              refine gHi (gs := [[(h, .inr (5, [.ref (Ad 0), .ref (At 0), .ref (As 0), .ref (Ac 0), .ref (L 6 0)]))], dyW cyI Ad D, shW cyI As S, hiW cyI cyO L V, [(ag, .inl (cyI, 6, .inl (g)))], [(ap, .inl (cyI, 20, .inl (p)))], [(aw, .inl (cyI, 20, .inl (w)))], [(aq, .inl (cyI, 20, .inl (q)))], [(ar, .inl (cyI, 20, .inl (r)))]]) (As := [.ref (h)]) (rest := []) ⟨hx, hb, hml, hown, hts⟩ (t_L_handOver_IS l G cyI cyO h Ad At As Ac L D (dho_f c_358) htr) (vx_cwSW 1 hts gL_others_L_handOver rfl rfl rfl (by decide +kernel) ⟨Nat.le_of_ble_eq_true rfl, Nat.le_of_ble_eq_true rfl⟩) hK hX hP hD hS hA [0, 1] rfl rfl (rfl : (2 : Nat) = 2) rfl hl.1 rfl (Nat.le_of_ble_eq_true rfl) dL_others_362 ⟨Nat.le_of_ble_eq_true rfl, Nat.le_of_ble_eq_true rfl⟩ (fun H locs hP hD hS => ?_)
              have hP : va_P G vwCl (cat [[(h, .inr (5, [.ref (Ad 0), .ref (At 0), .ref (As 0), .ref (Ac 0), .ref (L 6 0)]))], dyW cyI Ad D, shW cyI As S, hiW cyI cyO L V, [(ag, .inl (cyI, 6, .inl (g)))], [(ap, .inl (cyI, 20, .inl (p)))], [(aw, .inl (cyI, 20, .inl (w)))], [(aq, .inl (cyI, 20, .inl (q)))], [(ar, .inl (cyI, 20, .inl (r)))]]) H := hP
              have hD : va_D A9 (cat [[(h, .inr (5, [.ref (Ad 0), .ref (At 0), .ref (As 0), .ref (Ac 0), .ref (L 6 0)]))], dyW cyI Ad D, shW cyI As S, hiW cyI cyO L V, [(ag, .inl (cyI, 6, .inl (g)))], [(ap, .inl (cyI, 20, .inl (p)))], [(aw, .inl (cyI, 20, .inl (w)))], [(aq, .inl (cyI, 20, .inl (q)))], [(ar, .inl (cyI, 20, .inl (r)))]]) := hD
              refine W.cs (cells' := 1) (slots' := 6) rfl rfl ?_
              refine lv_bipush (v := (-33 : Int32)) hx hb dL_others_365 (by decide) ?_
              refine lv_icmp_ne (tgt := 383) hx hb dL_others_367 (by decide) (fun c_367 => ?_) (fun c_367 => ?_)
              · exact absurd c_367 (by decide)
              · refine lv_aload_n hx hb dL_others_370 rfl (lv_at hl 3 rfl) ?_
                refine gHi (gs := [[(h, .inr (5, [.ref (Ad 0), .ref (At 0), .ref (As 0), .ref (Ac 0), .ref (L 6 0)]))], dyW cyI Ad D, shW cyI As S, hiW cyI cyO L V, [(ag, .inl (cyI, 6, .inl (g)))], [(ap, .inl (cyI, 20, .inl (p)))], [(aw, .inl (cyI, 20, .inl (w)))], [(aq, .inl (cyI, 20, .inl (q)))], [(ar, .inl (cyI, 20, .inl (r)))]]) (As := [.ref (h)]) (rest := []) ⟨hx, hb, hml, hown, hts⟩ (t_L_callOff_IS l G cyI cyO h Ad At As Ac L D (dho_f c_358) htr) (vx_cwSW 1 hts gL_others_L_callOff rfl rfl rfl (by decide +kernel) ⟨Nat.le_of_ble_eq_true rfl, Nat.le_of_ble_eq_true rfl⟩) hK hX hP hD hS hA [0, 1] rfl rfl (rfl : (2 : Nat) = 2) rfl hl.1 rfl (Nat.le_of_ble_eq_true rfl) dL_others_371 ⟨Nat.le_of_ble_eq_true rfl, Nat.le_of_ble_eq_true rfl⟩ (fun H locs hP hD hS => ?_)
                have hP : va_P G vwCl (cat [[(h, .inr (5, [.ref (Ad 0), .ref (At 0), .ref (As 0), .ref (Ac 0), .ref (L 6 0)]))], dyW cyI Ad D, shW cyI As S, hiW cyI cyO L V, [(ag, .inl (cyI, 6, .inl (g)))], [(ap, .inl (cyI, 20, .inl (p)))], [(aw, .inl (cyI, 20, .inl (w)))], [(aq, .inl (cyI, 20, .inl (q)))], [(ar, .inl (cyI, 20, .inl (r)))]]) H := hP
                have hD : va_D A9 (cat [[(h, .inr (5, [.ref (Ad 0), .ref (At 0), .ref (As 0), .ref (Ac 0), .ref (L 6 0)]))], dyW cyI Ad D, shW cyI As S, hiW cyI cyO L V, [(ag, .inl (cyI, 6, .inl (g)))], [(ap, .inl (cyI, 20, .inl (p)))], [(aw, .inl (cyI, 20, .inl (w)))], [(aq, .inl (cyI, 20, .inl (q)))], [(ar, .inl (cyI, 20, .inl (r)))]]) := hD
                refine W.cs (cells' := 2) (slots' := 12) rfl rfl ?_
                refine lv_bipush (v := (-33 : Int32)) hx hb dL_others_374 (by decide) ?_
                refine lv_icmp_ne (tgt := 383) hx hb dL_others_376 (by decide) (fun c_376 => ?_) (fun c_376 => ?_)
                · exact absurd c_376 (by decide)
                · refine lv_iconst (v := (1 : Int32)) hx hb dL_others_379 (by decide) ?_
                  refine lv_goto (tgt := 384) hx hb dL_others_380 (by decide) ?_
                  refine W.widen (k := 4) (n := 38) (Nat.le_of_ble_eq_true rfl) (Nat.le_of_ble_eq_true rfl) ?_
                  exact end_g (U := DS × SS × HS × (Nat → Nat → Nat) × Nat × (Nat → Int32) × (Nat → Int32) × (Nat → Int32) × (Nat → Int32)) (ok := fun u9 => RA u9.1 u9.2.2.2.2.1 u9.2.2.2.2.2.1 p u9.2.2.2.2.2.2.1 u9.2.2.2.2.2.2.2.1 u9.2.2.2.2.2.2.2.2 ∧ u9.2.2.1.1 ≤ 6) (gu := fun u9 => [[(h, .inr (5, [.ref (Ad 0), .ref (At 0), .ref (As 0), .ref (Ac 0), .ref (u9.2.2.2.1 6 0)]))], dyW cyI Ad u9.1, shW cyI As u9.2.1, hiW cyI cyO u9.2.2.2.1 u9.2.2.1, [(ag, .inl (cyI, 6, .inl (u9.2.2.2.2.2.1)))], [(ap, .inl (cyI, 20, .inl (p)))], [(aw, .inl (cyI, 20, .inl (u9.2.2.2.2.2.2.1)))], [(aq, .inl (cyI, 20, .inl (u9.2.2.2.2.2.2.2.1)))], [(ar, .inl (cyI, 20, .inl (u9.2.2.2.2.2.2.2.2)))]]) ((D, S, V, L, M, g, w, q, r)) hx hb hr hlocks hK hP hD hS (⟨hA0, hV⟩) dL_others_384
        · have c_235 : ¬ (7) ≤ (how) := fun h9 => c_235 ((nI_leI (a := 7) (b := how) (by omega) (by omega)).mpr h9)
          refine lv_aload_n hx hb dL_others_238 rfl (lv_at hl 6 rfl) ?_
          refine lv_iconst (v := (1 : Int32)) hx hb dL_others_239 (by decide) ?_
          refine r_ild (k := 1) (n := 6) (f := g) hx hb hK hP 93 0 rfl rfl (by omega) (by omega) rfl dL_others_240 ?_
          refine top_i (x' := D.2.2.2.2.2.2.1) (hg1) ?_
          refine lv_if_gt (tgt := 250) hx hb dL_others_241 (by decide) (fun c_241 => ?_) (fun c_241 => ?_)
          · have hs1 := ho_t hst c_241
            have hm9 : (!dHO D && decide (0 < cW D.2.2.1)) = false := by rw [dho_t hs1]; rfl
            refine lv_aload_n hx hb dL_others_250 rfl (lv_at hl 3 rfl) ?_
            refine gHi (gs := [[(h, .inr (5, [.ref (Ad 0), .ref (At 0), .ref (As 0), .ref (Ac 0), .ref (L 6 0)]))], dyW cyI Ad D, shW cyI As S, hiW cyI cyO L V, [(ag, .inl (cyI, 6, .inl (g)))], [(ap, .inl (cyI, 20, .inl (p)))], [(aw, .inl (cyI, 20, .inl (w)))], [(aq, .inl (cyI, 20, .inl (q)))], [(ar, .inl (cyI, 20, .inl (r)))]]) (As := [.ref (h)]) (rest := []) ⟨hx, hb, hml, hown, hts⟩ (t_L_plan_IS l G cyI cyO h Ad At As Ac L D (hm9) htr) (vx_cwSW 1 hts gL_others_L_plan rfl rfl rfl (by decide +kernel) ⟨Nat.le_of_ble_eq_true rfl, Nat.le_of_ble_eq_true rfl⟩) hK hX hP hD hS hA [0, 1] rfl rfl (rfl : (2 : Nat) = 2) rfl hl.1 rfl (Nat.le_of_ble_eq_true rfl) dL_others_251 ⟨Nat.le_of_ble_eq_true rfl, Nat.le_of_ble_eq_true rfl⟩ (fun H locs hP hD hS => ?_)
            have hP : va_P G vwCl (cat [[(h, .inr (5, [.ref (Ad 0), .ref (At 0), .ref (As 0), .ref (Ac 0), .ref (L 6 0)]))], dyW cyI Ad D, shW cyI As S, hiW cyI cyO L V, [(ag, .inl (cyI, 6, .inl (g)))], [(ap, .inl (cyI, 20, .inl (p)))], [(aw, .inl (cyI, 20, .inl (w)))], [(aq, .inl (cyI, 20, .inl (q)))], [(ar, .inl (cyI, 20, .inl (r)))]]) H := hP
            have hD : va_D A9 (cat [[(h, .inr (5, [.ref (Ad 0), .ref (At 0), .ref (As 0), .ref (Ac 0), .ref (L 6 0)]))], dyW cyI Ad D, shW cyI As S, hiW cyI cyO L V, [(ag, .inl (cyI, 6, .inl (g)))], [(ap, .inl (cyI, 20, .inl (p)))], [(aw, .inl (cyI, 20, .inl (w)))], [(aq, .inl (cyI, 20, .inl (q)))], [(ar, .inl (cyI, 20, .inl (r)))]]) := hD
            refine W.cs (cells' := 1) (slots' := 6) rfl rfl ?_
            refine lv_bipush (v := (-33 : Int32)) hx hb dL_others_254 (by decide) ?_
            refine lv_icmp_ne (tgt := 263) hx hb dL_others_256 (by decide) (fun c_256 => ?_) (fun c_256 => ?_)
            · exact absurd c_256 (by decide)
            · refine lv_iconst (v := (1 : Int32)) hx hb dL_others_259 (by decide) ?_
              refine lv_goto (tgt := 264) hx hb dL_others_260 (by decide) ?_
              refine W.widen (k := 4) (n := 38) (Nat.le_of_ble_eq_true rfl) (Nat.le_of_ble_eq_true rfl) ?_
              exact end_g (U := DS × SS × HS × (Nat → Nat → Nat) × Nat × (Nat → Int32) × (Nat → Int32) × (Nat → Int32) × (Nat → Int32)) (ok := fun u9 => RA u9.1 u9.2.2.2.2.1 u9.2.2.2.2.2.1 p u9.2.2.2.2.2.2.1 u9.2.2.2.2.2.2.2.1 u9.2.2.2.2.2.2.2.2 ∧ u9.2.2.1.1 ≤ 6) (gu := fun u9 => [[(h, .inr (5, [.ref (Ad 0), .ref (At 0), .ref (As 0), .ref (Ac 0), .ref (u9.2.2.2.1 6 0)]))], dyW cyI Ad u9.1, shW cyI As u9.2.1, hiW cyI cyO u9.2.2.2.1 u9.2.2.1, [(ag, .inl (cyI, 6, .inl (u9.2.2.2.2.2.1)))], [(ap, .inl (cyI, 20, .inl (p)))], [(aw, .inl (cyI, 20, .inl (u9.2.2.2.2.2.2.1)))], [(aq, .inl (cyI, 20, .inl (u9.2.2.2.2.2.2.2.1)))], [(ar, .inl (cyI, 20, .inl (u9.2.2.2.2.2.2.2.2)))]]) ((D, S, V, L, M, g, w, q, r)) hx hb hr hlocks hK hP hD hS (⟨hA0, hV⟩) dL_others_264
          · have hst0 := ho_f hst c_241
            refine lv_aload_n hx hb dL_others_244 rfl (lv_at hl 6 rfl) ?_
            refine lv_iconst (v := (5 : Int32)) hx hb dL_others_245 (by decide) ?_
            refine r_ild (k := 5) (n := 6) (f := g) hx hb hK hP 93 0 rfl rfl (by omega) (by omega) rfl dL_others_246 ?_
            refine top_i (x' := nI (M)) (hg5) ?_
            refine lv_if_ne (tgt := 265) hx hb dL_others_247 (by decide) (fun c_247 => ?_) (fun c_247 => ?_)
            · have c_247 : ¬ (M) = (0) := fun h9 => c_247 ((nI_eq (a := M) (b := 0) (by omega) (by omega)).mpr h9)
              have hc0 : 0 < cW D.2.2.1 := by rw [cW_men hW]; exact Nat.pos_of_ne_zero fun h9 => c_247 ((menN_0 M hM).mp h9)
              refine lv_bipush (v := (20 : Int32)) hx hb dL_others_265 (by decide) ?_
              refine r_newa (t0 := 0) (k := 20) hx hb (hts (.arrayClass .int) (by decide +kernel)) hK rfl hP hD hS hA rfl (by omega) (by omega) ⟨Nat.le_of_ble_eq_true rfl, Nat.le_of_ble_eq_true rfl⟩ dL_others_267 (fun a267 H hP hD hS => ?_)
              have hP : va_P G vwCl (cat [[(h, .inr (5, [.ref (Ad 0), .ref (At 0), .ref (As 0), .ref (Ac 0), .ref (L 6 0)]))], dyW cyI Ad D, shW cyI As S, hiW cyI cyO L V, [(ag, .inl (cyI, 6, .inl (g)))], [(ap, .inl (cyI, 20, .inl (p)))], [(aw, .inl (cyI, 20, .inl (w)))], [(aq, .inl (cyI, 20, .inl (q)))], [(ar, .inl (cyI, 20, .inl (r)))], [(a267, .inl (cyI, 20, .inl (fun _ => 0)))]]) H := hP
              have hD : va_D A9 (cat [[(h, .inr (5, [.ref (Ad 0), .ref (At 0), .ref (As 0), .ref (Ac 0), .ref (L 6 0)]))], dyW cyI Ad D, shW cyI As S, hiW cyI cyO L V, [(ag, .inl (cyI, 6, .inl (g)))], [(ap, .inl (cyI, 20, .inl (p)))], [(aw, .inl (cyI, 20, .inl (w)))], [(aq, .inl (cyI, 20, .inl (q)))], [(ar, .inl (cyI, 20, .inl (r)))], [(a267, .inl (cyI, 20, .inl (fun _ => 0)))]]) := hD
              refine W.cs (cells' := 1) (slots' := 20) rfl rfl ?_
              refine lv_astore (lv' := [(11, .ref (a267)), (10, .int (nI (bt M m))), (9, .int (nI (m))), (8, .int (nI (how))), (0, .ref (h)), (1, .int (x)), (2, .int (y)), (3, .ref (ag)), (4, .ref (ap)), (5, .ref (aw)), (6, .ref (aq)), (7, .ref (ar))]) hx hb dL_others_269 hl (by decide) rfl (fun ls hl => ?_)
              refine lv_aload_n hx hb dL_others_271 rfl (lv_at hl 7 rfl) ?_
              refine lv_aload hx hb dL_others_272 (lv_at hl 8 rfl) ?_
              refine lv_aload hx hb dL_others_274 (lv_at hl 9 rfl) ?_
              refine lv_aload hx hb dL_others_276 (lv_at hl 0 rfl) ?_
              refine gSa (gs := [[(h, .inr (5, [.ref (Ad 0), .ref (At 0), .ref (As 0), .ref (Ac 0), .ref (L 6 0)]))], dyW cyI Ad D, shW cyI As S, hiW cyI cyO L V, [(ag, .inl (cyI, 6, .inl (g)))], [(ap, .inl (cyI, 20, .inl (p)))], [(aw, .inl (cyI, 20, .inl (w)))], [(aq, .inl (cyI, 20, .inl (q)))], [(ar, .inl (cyI, 20, .inl (r)))], [(a267, .inl (cyI, 20, .inl (fun _ => 0)))]]) (As := [.ref (ag), .ref (ap), .ref (aw), .ref (a267)]) (rest := []) ⟨hx, hb, hml, hown, hts⟩ (c_L_share l G cyI cyO ag ap aw a267 g p w (fun _ => 0) D.2.2.2.2.2.1 M pn (hLs) (hg0) (hg5)) (va_cwS 4 hts gL_others_L_share rfl rfl rfl (by decide +kernel) ⟨Nat.le_of_ble_eq_true rfl, Nat.le_of_ble_eq_true rfl⟩) hK hP hD hS hA [4, 5, 6, 9] rfl rfl (rfl : (4 : Nat) = 4) rfl hl.1 rfl (Nat.le_of_ble_eq_true rfl) dL_others_278 ⟨Nat.le_of_ble_eq_true rfl, Nat.le_of_ble_eq_true rfl⟩ (fun H locs hP hD hS => ?_)
              have hP : va_P G vwCl (cat [[(h, .inr (5, [.ref (Ad 0), .ref (At 0), .ref (As 0), .ref (Ac 0), .ref (L 6 0)]))], dyW cyI Ad D, shW cyI As S, hiW cyI cyO L V, [(ag, .inl (cyI, 6, .inl (g)))], [(ap, .inl (cyI, 20, .inl (p)))], [(aw, .inl (cyI, 20, .inl (w)))], [(aq, .inl (cyI, 20, .inl (q)))], [(ar, .inl (cyI, 20, .inl (r)))], [(a267, .inl (cyI, 20, .inl (lsG D.2.2.2.2.2.1 M p w (fun _ => 0))))]]) H := hP
              have hD : va_D A9 (cat [[(h, .inr (5, [.ref (Ad 0), .ref (At 0), .ref (As 0), .ref (Ac 0), .ref (L 6 0)]))], dyW cyI Ad D, shW cyI As S, hiW cyI cyO L V, [(ag, .inl (cyI, 6, .inl (g)))], [(ap, .inl (cyI, 20, .inl (p)))], [(aw, .inl (cyI, 20, .inl (w)))], [(aq, .inl (cyI, 20, .inl (q)))], [(ar, .inl (cyI, 20, .inl (r)))], [(a267, .inl (cyI, 20, .inl (lsG D.2.2.2.2.2.1 M p w (fun _ => 0))))]]) := hD
              refine W.cs (cells' := 3) (slots' := 32) rfl rfl ?_
              refine lv_istore (lv' := [(12, .int (lsR D.2.2.2.2.2.1 M p w (fun _ => 0))), (11, .ref (a267)), (10, .int (nI (bt M m))), (9, .int (nI (m))), (8, .int (nI (how))), (0, .ref (h)), (1, .int (x)), (2, .int (y)), (3, .ref (ag)), (4, .ref (ap)), (5, .ref (aw)), (6, .ref (aq)), (7, .ref (ar))]) hx hb dL_others_281 hl (by decide) rfl (fun ls hl => ?_)
              refine lv_iconst (v := (0 : Int32)) hx hb dL_others_283 (by decide) ?_
              refine lv_istore (lv' := [(13, .int ((0 : Int32))), (12, .int (lsR D.2.2.2.2.2.1 M p w (fun _ => 0))), (11, .ref (a267)), (10, .int (nI (bt M m))), (9, .int (nI (m))), (8, .int (nI (how))), (0, .ref (h)), (1, .int (x)), (2, .int (y)), (3, .ref (ag)), (4, .ref (ap)), (5, .ref (aw)), (6, .ref (aq)), (7, .ref (ar))]) hx hb dL_others_284 hl (by decide) rfl (fun ls hl => ?_)
              refine W_loop (α := Nat) (I := fun a9 H locs ls => (a9 ≤ D.2.2.2.2.2.1) ∧ va_P G vwCl (cat [[(h, .inr (5, [.ref (Ad 0), .ref (At 0), .ref (As 0), .ref (Ac 0), .ref (L 6 0)]))], dyW cyI Ad D, shW cyI As S, hiW cyI cyO L V, [(ag, .inl (cyI, 6, .inl (g)))], [(ap, .inl (cyI, 20, .inl (p)))], [(aw, .inl (cyI, 20, .inl (w)))], [(aq, .inl (cyI, 20, .inl (cpF a9 (lsG D.2.2.2.2.2.1 M p w (fun _ => 0)) q)))], [(ar, .inl (cyI, 20, .inl (cpF a9 w r)))], [(a267, .inl (cyI, 20, .inl (lsG D.2.2.2.2.2.1 M p w (fun _ => 0))))]]) H ∧ va_D A9 (cat [[(h, .inr (5, [.ref (Ad 0), .ref (At 0), .ref (As 0), .ref (Ac 0), .ref (L 6 0)]))], dyW cyI Ad D, shW cyI As S, hiW cyI cyO L V, [(ag, .inl (cyI, 6, .inl (g)))], [(ap, .inl (cyI, 20, .inl (p)))], [(aw, .inl (cyI, 20, .inl (w)))], [(aq, .inl (cyI, 20, .inl (cpF a9 (lsG D.2.2.2.2.2.1 M p w (fun _ => 0)) q)))], [(ar, .inl (cyI, 20, .inl (cpF a9 w r)))], [(a267, .inl (cyI, 20, .inl (lsG D.2.2.2.2.2.1 M p w (fun _ => 0))))]]) ∧ va_S A9 s9.heap H locs ∧ lv_has ls 14 [(13, .int (nI (a9))), (12, .int (lsR D.2.2.2.2.2.1 M p w (fun _ => 0))), (11, .ref (a267)), (10, .int (nI (bt M m))), (9, .int (nI (m))), (8, .int (nI (how))), (0, .ref (h)), (1, .int (x)), (2, .int (y)), (3, .ref (ag)), (4, .ref (ap)), (5, .ref (aw)), (6, .ref (aq)), (7, .ref (ar))]) (μ := fun a9 => D.2.2.2.2.2.1 - a9) (st := fun a9 => []) ?_ (0) _ _ _ ⟨(show 0 ≤ D.2.2.2.2.2.1 from Nat.zero_le _), hP, hD, hS, lv_sub hl [0, 1, 2, 3, 4, 5, 6, 7, 8, 9, 10, 11, 12, 13] rfl⟩
              intro a9 ih_286 H locs ls hI
              obtain ⟨i, ea9⟩ : ∃ z, z = a9 := ⟨_, rfl⟩
              subst ea9
              obtain ⟨hi9, hP9, hD9, hS9, hl9⟩ := hI
              have hi : i ≤ D.2.2.2.2.2.1 := hi9
              have hP : va_P G vwCl (cat [[(h, .inr (5, [.ref (Ad 0), .ref (At 0), .ref (As 0), .ref (Ac 0), .ref (L 6 0)]))], dyW cyI Ad D, shW cyI As S, hiW cyI cyO L V, [(ag, .inl (cyI, 6, .inl (g)))], [(ap, .inl (cyI, 20, .inl (p)))], [(aw, .inl (cyI, 20, .inl (w)))], [(aq, .inl (cyI, 20, .inl (cpF i (lsG D.2.2.2.2.2.1 M p w (fun _ => 0)) q)))], [(ar, .inl (cyI, 20, .inl (cpF i w r)))], [(a267, .inl (cyI, 20, .inl (lsG D.2.2.2.2.2.1 M p w (fun _ => 0))))]]) H := hP9
              have hD : va_D A9 (cat [[(h, .inr (5, [.ref (Ad 0), .ref (At 0), .ref (As 0), .ref (Ac 0), .ref (L 6 0)]))], dyW cyI Ad D, shW cyI As S, hiW cyI cyO L V, [(ag, .inl (cyI, 6, .inl (g)))], [(ap, .inl (cyI, 20, .inl (p)))], [(aw, .inl (cyI, 20, .inl (w)))], [(aq, .inl (cyI, 20, .inl (cpF i (lsG D.2.2.2.2.2.1 M p w (fun _ => 0)) q)))], [(ar, .inl (cyI, 20, .inl (cpF i w r)))], [(a267, .inl (cyI, 20, .inl (lsG D.2.2.2.2.2.1 M p w (fun _ => 0))))]]) := hD9
              have hS := hS9
              have hl : lv_has ls 14 [(13, .int (nI (i))), (12, .int (lsR D.2.2.2.2.2.1 M p w (fun _ => 0))), (11, .ref (a267)), (10, .int (nI (bt M m))), (9, .int (nI (m))), (8, .int (nI (how))), (0, .ref (h)), (1, .int (x)), (2, .int (y)), (3, .ref (ag)), (4, .ref (ap)), (5, .ref (aw)), (6, .ref (aq)), (7, .ref (ar))] := hl9
              clear hi9 hP9 hD9 hS9 hl9
              refine lv_iload hx hb dL_others_286 (lv_at hl 0 rfl) ?_
              refine lv_aload_n hx hb dL_others_288 rfl (lv_at hl 9 rfl) ?_
              refine lv_iconst (v := (0 : Int32)) hx hb dL_others_289 (by decide) ?_
              refine r_ild (k := 0) (n := 6) (f := g) hx hb hK hP 93 0 rfl rfl (by omega) (by omega) rfl dL_others_290 ?_
              refine top_i (x' := nI (D.2.2.2.2.2.1)) (hg0) ?_
              refine lv_icmp_ge (tgt := 320) hx hb dL_others_291 (by decide) (fun c_291 => ?_) (fun c_291 => ?_)
              · have c_291 : (D.2.2.2.2.2.1) ≤ (i) := (nI_leI (a := D.2.2.2.2.2.1) (b := i) (by omega) (by omega)).mp c_291
                obtain rfl : D.2.2.2.2.2.1 = i := by omega
                refine lv_aload_n hx hb dL_others_320 rfl (lv_at hl 9 rfl) ?_
                refine lv_iconst (v := (1 : Int32)) hx hb dL_others_321 (by decide) ?_
                refine W_join (pc2 := 332) (v := .int (if 0 < lsR D.2.2.2.2.2.1 M p w (fun _ => 0) then 1 else 0)) (l2 := ls) (rest := [.int ((1 : Int32)), .ref (ag)]) ?_ (fun j_332 => ?_)
                · refine r_ist (k := 1) (n := 6) (f := g) hx hb hK hP hD hS 93 0 rfl rfl (by omega) (by omega) rfl dL_others_332 (fun H locs hP hD hS => ?_)
                  have hP : va_P G vwCl (cat [[(h, .inr (5, [.ref (Ad 0), .ref (At 0), .ref (As 0), .ref (Ac 0), .ref (L 6 0)]))], dyW cyI Ad D, shW cyI As S, hiW cyI cyO L V, [(ag, .inl (cyI, 6, .inl (upd g 1 (if 0 < lsR D.2.2.2.2.2.1 M p w (fun _ => 0) then 1 else 0))))], [(ap, .inl (cyI, 20, .inl (p)))], [(aw, .inl (cyI, 20, .inl (w)))], [(aq, .inl (cyI, 20, .inl (cpF D.2.2.2.2.2.1 (lsG D.2.2.2.2.2.1 M p w (fun _ => 0)) q)))], [(ar, .inl (cyI, 20, .inl (cpF D.2.2.2.2.2.1 w r)))], [(a267, .inl (cyI, 20, .inl (lsG D.2.2.2.2.2.1 M p w (fun _ => 0))))]]) H := hP
                  have hD : va_D A9 (cat [[(h, .inr (5, [.ref (Ad 0), .ref (At 0), .ref (As 0), .ref (Ac 0), .ref (L 6 0)]))], dyW cyI Ad D, shW cyI As S, hiW cyI cyO L V, [(ag, .inl (cyI, 6, .inl (upd g 1 (if 0 < lsR D.2.2.2.2.2.1 M p w (fun _ => 0) then 1 else 0))))], [(ap, .inl (cyI, 20, .inl (p)))], [(aw, .inl (cyI, 20, .inl (w)))], [(aq, .inl (cyI, 20, .inl (cpF D.2.2.2.2.2.1 (lsG D.2.2.2.2.2.1 M p w (fun _ => 0)) q)))], [(ar, .inl (cyI, 20, .inl (cpF D.2.2.2.2.2.1 w r)))], [(a267, .inl (cyI, 20, .inl (lsG D.2.2.2.2.2.1 M p w (fun _ => 0))))]]) := hD
                  refine lv_aload_n hx hb dL_others_333 rfl (lv_at hl 6 rfl) ?_
                  refine gHi (gs := [[(h, .inr (5, [.ref (Ad 0), .ref (At 0), .ref (As 0), .ref (Ac 0), .ref (L 6 0)]))], dyW cyI Ad D, shW cyI As S, hiW cyI cyO L V, [(ag, .inl (cyI, 6, .inl (upd g 1 (if 0 < lsR D.2.2.2.2.2.1 M p w (fun _ => 0) then 1 else 0))))], [(ap, .inl (cyI, 20, .inl (p)))], [(aw, .inl (cyI, 20, .inl (w)))], [(aq, .inl (cyI, 20, .inl (cpF D.2.2.2.2.2.1 (lsG D.2.2.2.2.2.1 M p w (fun _ => 0)) q)))], [(ar, .inl (cyI, 20, .inl (cpF D.2.2.2.2.2.1 w r)))], [(a267, .inl (cyI, 20, .inl (lsG D.2.2.2.2.2.1 M p w (fun _ => 0))))]]) (As := [.ref (h)]) (rest := []) ⟨hx, hb, hml, hown, hts⟩ (n_L_plan l G cyI cyO h Ad At As Ac L S D V (by omega) (by omega) (by rw [dho_f hst0, decide_eq_true hc0]; rfl)) (vx_cwSW 1 hts gL_others_L_plan rfl rfl rfl (by decide +kernel) ⟨Nat.le_of_ble_eq_true rfl, Nat.le_of_ble_eq_true rfl⟩) hK hX hP hD hS hA [0, 2, 1, 3] rfl rfl (rfl : (4 : Nat) = 4) rfl hl.1 rfl (Nat.le_of_ble_eq_true rfl) dL_others_334 ⟨Nat.le_of_ble_eq_true rfl, Nat.le_of_ble_eq_true rfl⟩ (fun H locs hP hD hS => ?_)
                  have hP : va_P G vwCl (cat [[(h, .inr (5, [.ref (Ad 0), .ref (At 0), .ref (As 0), .ref (Ac 0), .ref (L 6 0)]))], dyW cyI Ad (mpD S D), shW cyI As (shOut S D), hiW cyI cyO (svM L V) (svS V D), [(ag, .inl (cyI, 6, .inl (upd g 1 (if 0 < lsR D.2.2.2.2.2.1 M p w (fun _ => 0) then 1 else 0))))], [(ap, .inl (cyI, 20, .inl (p)))], [(aw, .inl (cyI, 20, .inl (w)))], [(aq, .inl (cyI, 20, .inl (cpF D.2.2.2.2.2.1 (lsG D.2.2.2.2.2.1 M p w (fun _ => 0)) q)))], [(ar, .inl (cyI, 20, .inl (cpF D.2.2.2.2.2.1 w r)))], [(a267, .inl (cyI, 20, .inl (lsG D.2.2.2.2.2.1 M p w (fun _ => 0))))]]) H := hP
                  have hD : va_D A9 (cat [[(h, .inr (5, [.ref (Ad 0), .ref (At 0), .ref (As 0), .ref (Ac 0), .ref (L 6 0)]))], dyW cyI Ad (mpD S D), shW cyI As (shOut S D), hiW cyI cyO (svM L V) (svS V D), [(ag, .inl (cyI, 6, .inl (upd g 1 (if 0 < lsR D.2.2.2.2.2.1 M p w (fun _ => 0) then 1 else 0))))], [(ap, .inl (cyI, 20, .inl (p)))], [(aw, .inl (cyI, 20, .inl (w)))], [(aq, .inl (cyI, 20, .inl (cpF D.2.2.2.2.2.1 (lsG D.2.2.2.2.2.1 M p w (fun _ => 0)) q)))], [(ar, .inl (cyI, 20, .inl (cpF D.2.2.2.2.2.1 w r)))], [(a267, .inl (cyI, 20, .inl (lsG D.2.2.2.2.2.1 M p w (fun _ => 0))))]]) := hD
                  refine W.cs (cells' := 4) (slots' := 38) rfl rfl ?_
                  refine lv_iload hx hb dL_others_337 (lv_at hl 1 rfl) ?_
                  refine lv_icmp_ne (tgt := 346) hx hb dL_others_339 (by decide) (fun c_339 => ?_) (fun c_339 => ?_)
                  · exact absurd (ls_res hA0.1.lsd) c_339
                  · refine lv_iconst (v := (1 : Int32)) hx hb dL_others_342 (by decide) ?_
                    refine lv_goto (tgt := 347) hx hb dL_others_343 (by decide) ?_
                    have hP := seg_P (gi := [[(h, .inr (5, [.ref (Ad 0), .ref (At 0), .ref (As 0), .ref (Ac 0), .ref (L 6 0)]))], dyW cyI Ad (mpD S D), shW cyI As (shOut S D), hiW cyI cyO (svM L V) (svS V D), [(ag, .inl (cyI, 6, .inl (upd g 1 (if 0 < lsR D.2.2.2.2.2.1 M p w (fun _ => 0) then 1 else 0))))], [(ap, .inl (cyI, 20, .inl (p)))], [(aw, .inl (cyI, 20, .inl (w)))], [(aq, .inl (cyI, 20, .inl (cpF D.2.2.2.2.2.1 (lsG D.2.2.2.2.2.1 M p w (fun _ => 0)) q)))], [(ar, .inl (cyI, 20, .inl (cpF D.2.2.2.2.2.1 w r)))]]) hP (is := [0, 1, 2, 3, 4, 5, 6, 7, 8]) rfl rfl
                    have hD := seg_D (gi := [[(h, .inr (5, [.ref (Ad 0), .ref (At 0), .ref (As 0), .ref (Ac 0), .ref (L 6 0)]))], dyW cyI Ad (mpD S D), shW cyI As (shOut S D), hiW cyI cyO (svM L V) (svS V D), [(ag, .inl (cyI, 6, .inl (upd g 1 (if 0 < lsR D.2.2.2.2.2.1 M p w (fun _ => 0) then 1 else 0))))], [(ap, .inl (cyI, 20, .inl (p)))], [(aw, .inl (cyI, 20, .inl (w)))], [(aq, .inl (cyI, 20, .inl (cpF D.2.2.2.2.2.1 (lsG D.2.2.2.2.2.1 M p w (fun _ => 0)) q)))], [(ar, .inl (cyI, 20, .inl (cpF D.2.2.2.2.2.1 w r)))]]) hD (is := [0, 1, 2, 3, 4, 5, 6, 7, 8]) rfl rfl
                    have hP : va_P G vwCl (cat [[(h, .inr (5, [.ref (Ad 0), .ref (At 0), .ref (As 0), .ref (Ac 0), .ref (L 6 0)]))], dyW cyI Ad (mpD S D), shW cyI As (shOut S D), hiW cyI cyO (svM L V) (svS V D), [(ag, .inl (cyI, 6, .inl (upd g 1 (if 0 < lsR D.2.2.2.2.2.1 M p w (fun _ => 0) then 1 else 0))))], [(ap, .inl (cyI, 20, .inl (p)))], [(aw, .inl (cyI, 20, .inl (w)))], [(aq, .inl (cyI, 20, .inl (cpF D.2.2.2.2.2.1 (lsG D.2.2.2.2.2.1 M p w (fun _ => 0)) q)))], [(ar, .inl (cyI, 20, .inl (cpF D.2.2.2.2.2.1 w r)))]]) H := hP
                    have hD : va_D A9 (cat [[(h, .inr (5, [.ref (Ad 0), .ref (At 0), .ref (As 0), .ref (Ac 0), .ref (L 6 0)]))], dyW cyI Ad (mpD S D), shW cyI As (shOut S D), hiW cyI cyO (svM L V) (svS V D), [(ag, .inl (cyI, 6, .inl (upd g 1 (if 0 < lsR D.2.2.2.2.2.1 M p w (fun _ => 0) then 1 else 0))))], [(ap, .inl (cyI, 20, .inl (p)))], [(aw, .inl (cyI, 20, .inl (w)))], [(aq, .inl (cyI, 20, .inl (cpF D.2.2.2.2.2.1 (lsG D.2.2.2.2.2.1 M p w (fun _ => 0)) q)))], [(ar, .inl (cyI, 20, .inl (cpF D.2.2.2.2.2.1 w r)))]]) := hD
                    refine W.widen (k := 4) (n := 38) (Nat.le_of_ble_eq_true rfl) (Nat.le_of_ble_eq_true rfl) ?_
                    exact end_g (U := DS × SS × HS × (Nat → Nat → Nat) × Nat × (Nat → Int32) × (Nat → Int32) × (Nat → Int32) × (Nat → Int32)) (ok := fun u9 => RA u9.1 u9.2.2.2.2.1 u9.2.2.2.2.2.1 p u9.2.2.2.2.2.2.1 u9.2.2.2.2.2.2.2.1 u9.2.2.2.2.2.2.2.2 ∧ u9.2.2.1.1 ≤ 6) (gu := fun u9 => [[(h, .inr (5, [.ref (Ad 0), .ref (At 0), .ref (As 0), .ref (Ac 0), .ref (u9.2.2.2.1 6 0)]))], dyW cyI Ad u9.1, shW cyI As u9.2.1, hiW cyI cyO u9.2.2.2.1 u9.2.2.1, [(ag, .inl (cyI, 6, .inl (u9.2.2.2.2.2.1)))], [(ap, .inl (cyI, 20, .inl (p)))], [(aw, .inl (cyI, 20, .inl (u9.2.2.2.2.2.2.1)))], [(aq, .inl (cyI, 20, .inl (u9.2.2.2.2.2.2.2.1)))], [(ar, .inl (cyI, 20, .inl (u9.2.2.2.2.2.2.2.2)))]]) ((mpD S D, shOut S D, svS V D, svM L V, M, upd g 1 (if 0 < lsR D.2.2.2.2.2.1 M p w (fun _ => 0) then 1 else 0), w, cpF D.2.2.2.2.2.1 (lsG D.2.2.2.2.2.1 M p w (fun _ => 0)) q, cpF D.2.2.2.2.2.1 w r)) hx hb hr hlocks hK hP hD hS (⟨hA0.plan hst0 c_247, svS_le hV⟩) dL_others_347
                · refine lv_iload hx hb dL_others_322 (lv_at hl 1 rfl) ?_
                  refine lv_if_le (tgt := 331) hx hb dL_others_324 (by decide) (fun c_324 => ?_) (fun c_324 => ?_)
                  · refine lv_iconst (v := (0 : Int32)) hx hb dL_others_331 (by decide) ?_
                    refine top_i (x' := if 0 < lsR D.2.2.2.2.2.1 M p w (fun _ => 0) then 1 else 0) (by first | rw [if_pos (i_ltn c_324)] | rw [if_neg (i_len c_324)]) ?_
                    exact j_332
                  · refine lv_iconst (v := (1 : Int32)) hx hb dL_others_327 (by decide) ?_
                    refine lv_goto (tgt := 332) hx hb dL_others_328 (by decide) ?_
                    refine top_i (x' := if 0 < lsR D.2.2.2.2.2.1 M p w (fun _ => 0) then 1 else 0) (by first | rw [if_pos (i_ltn c_324)] | rw [if_neg (i_len c_324)]) ?_
                    exact j_332
              · have c_291 : ¬ (D.2.2.2.2.2.1) ≤ (i) := fun h9 => c_291 ((nI_leI (a := D.2.2.2.2.2.1) (b := i) (by omega) (by omega)).mpr h9)
                refine lv_aload hx hb dL_others_294 (lv_at hl 12 rfl) ?_
                refine lv_iload hx hb dL_others_296 (lv_at hl 0 rfl) ?_
                refine lv_aload hx hb dL_others_298 (lv_at hl 2 rfl) ?_
                refine lv_iload hx hb dL_others_300 (lv_at hl 0 rfl) ?_
                refine r_ild (k := i) (n := 20) (f := lsG D.2.2.2.2.2.1 M p w (fun _ => 0)) hx hb hK hP 98 0 rfl rfl (by omega) (by omega) rfl dL_others_302 ?_
                refine r_ist (k := i) (n := 20) (f := cpF i (lsG D.2.2.2.2.2.1 M p w (fun _ => 0)) q) hx hb hK hP hD hS 96 0 rfl rfl (by omega) (by omega) rfl dL_others_303 (fun H locs hP hD hS => ?_)
                have hP : va_P G vwCl (cat [[(h, .inr (5, [.ref (Ad 0), .ref (At 0), .ref (As 0), .ref (Ac 0), .ref (L 6 0)]))], dyW cyI Ad D, shW cyI As S, hiW cyI cyO L V, [(ag, .inl (cyI, 6, .inl (g)))], [(ap, .inl (cyI, 20, .inl (p)))], [(aw, .inl (cyI, 20, .inl (w)))], [(aq, .inl (cyI, 20, .inl (upd (cpF i (lsG D.2.2.2.2.2.1 M p w (fun _ => 0)) q) i ((lsG D.2.2.2.2.2.1 M p w (fun _ => 0)) i))))], [(ar, .inl (cyI, 20, .inl (cpF i w r)))], [(a267, .inl (cyI, 20, .inl (lsG D.2.2.2.2.2.1 M p w (fun _ => 0))))]]) H := hP
                have hD : va_D A9 (cat [[(h, .inr (5, [.ref (Ad 0), .ref (At 0), .ref (As 0), .ref (Ac 0), .ref (L 6 0)]))], dyW cyI Ad D, shW cyI As S, hiW cyI cyO L V, [(ag, .inl (cyI, 6, .inl (g)))], [(ap, .inl (cyI, 20, .inl (p)))], [(aw, .inl (cyI, 20, .inl (w)))], [(aq, .inl (cyI, 20, .inl (upd (cpF i (lsG D.2.2.2.2.2.1 M p w (fun _ => 0)) q) i ((lsG D.2.2.2.2.2.1 M p w (fun _ => 0)) i))))], [(ar, .inl (cyI, 20, .inl (cpF i w r)))], [(a267, .inl (cyI, 20, .inl (lsG D.2.2.2.2.2.1 M p w (fun _ => 0))))]]) := hD
                refine lv_aload hx hb dL_others_304 (lv_at hl 13 rfl) ?_
                refine lv_iload hx hb dL_others_306 (lv_at hl 0 rfl) ?_
                refine lv_aload hx hb dL_others_308 (lv_at hl 11 rfl) ?_
                refine lv_iload hx hb dL_others_310 (lv_at hl 0 rfl) ?_
                refine r_ild (k := i) (n := 20) (f := w) hx hb hK hP 95 0 rfl rfl (by omega) (by omega) rfl dL_others_312 ?_
                refine r_ist (k := i) (n := 20) (f := cpF i w r) hx hb hK hP hD hS 97 0 rfl rfl (by omega) (by omega) rfl dL_others_313 (fun H locs hP hD hS => ?_)
                have hP : va_P G vwCl (cat [[(h, .inr (5, [.ref (Ad 0), .ref (At 0), .ref (As 0), .ref (Ac 0), .ref (L 6 0)]))], dyW cyI Ad D, shW cyI As S, hiW cyI cyO L V, [(ag, .inl (cyI, 6, .inl (g)))], [(ap, .inl (cyI, 20, .inl (p)))], [(aw, .inl (cyI, 20, .inl (w)))], [(aq, .inl (cyI, 20, .inl (upd (cpF i (lsG D.2.2.2.2.2.1 M p w (fun _ => 0)) q) i ((lsG D.2.2.2.2.2.1 M p w (fun _ => 0)) i))))], [(ar, .inl (cyI, 20, .inl (upd (cpF i w r) i (w i))))], [(a267, .inl (cyI, 20, .inl (lsG D.2.2.2.2.2.1 M p w (fun _ => 0))))]]) H := hP
                have hD : va_D A9 (cat [[(h, .inr (5, [.ref (Ad 0), .ref (At 0), .ref (As 0), .ref (Ac 0), .ref (L 6 0)]))], dyW cyI Ad D, shW cyI As S, hiW cyI cyO L V, [(ag, .inl (cyI, 6, .inl (g)))], [(ap, .inl (cyI, 20, .inl (p)))], [(aw, .inl (cyI, 20, .inl (w)))], [(aq, .inl (cyI, 20, .inl (upd (cpF i (lsG D.2.2.2.2.2.1 M p w (fun _ => 0)) q) i ((lsG D.2.2.2.2.2.1 M p w (fun _ => 0)) i))))], [(ar, .inl (cyI, 20, .inl (upd (cpF i w r) i (w i))))], [(a267, .inl (cyI, 20, .inl (lsG D.2.2.2.2.2.1 M p w (fun _ => 0))))]]) := hD
                refine lv_iinc (v := nI (i + 1)) (lv' := [(13, .int (nI (i + 1))), (12, .int (lsR D.2.2.2.2.2.1 M p w (fun _ => 0))), (11, .ref (a267)), (10, .int (nI (bt M m))), (9, .int (nI (m))), (8, .int (nI (how))), (0, .ref (h)), (1, .int (x)), (2, .int (y)), (3, .ref (ag)), (4, .ref (ap)), (5, .ref (aw)), (6, .ref (aq)), (7, .ref (ar))]) hx hb dL_others_314 hl (k := 0) rfl (nI_add _ _) (by decide) rfl (fun ls hl => ?_)
                refine lv_goto (tgt := 286) hx hb dL_others_317 (by decide) ?_
                exact ih_286 (i + 1) (by show (D.2.2.2.2.2.1 - (i + 1)) < (D.2.2.2.2.2.1 - i); omega) _ _ _ ⟨(show (i + 1) ≤ D.2.2.2.2.2.1 from by omega), hP, hD, hS, lv_sub hl [0, 1, 2, 3, 4, 5, 6, 7, 8, 9, 10, 11, 12, 13] rfl⟩
            · have c_247 : (M) = (0) := (nI_eq (a := M) (b := 0) (by omega) (by omega)).mp c_247
              have hm9 : (!dHO D && decide (0 < cW D.2.2.1)) = false := by rw [cW_men hW, (menN_0 M hM).mpr c_247, show decide (0 < 0) = false from rfl, Bool.and_false]
              refine lv_aload_n hx hb dL_others_250 rfl (lv_at hl 3 rfl) ?_
              refine gHi (gs := [[(h, .inr (5, [.ref (Ad 0), .ref (At 0), .ref (As 0), .ref (Ac 0), .ref (L 6 0)]))], dyW cyI Ad D, shW cyI As S, hiW cyI cyO L V, [(ag, .inl (cyI, 6, .inl (g)))], [(ap, .inl (cyI, 20, .inl (p)))], [(aw, .inl (cyI, 20, .inl (w)))], [(aq, .inl (cyI, 20, .inl (q)))], [(ar, .inl (cyI, 20, .inl (r)))]]) (As := [.ref (h)]) (rest := []) ⟨hx, hb, hml, hown, hts⟩ (t_L_plan_IS l G cyI cyO h Ad At As Ac L D (hm9) htr) (vx_cwSW 1 hts gL_others_L_plan rfl rfl rfl (by decide +kernel) ⟨Nat.le_of_ble_eq_true rfl, Nat.le_of_ble_eq_true rfl⟩) hK hX hP hD hS hA [0, 1] rfl rfl (rfl : (2 : Nat) = 2) rfl hl.1 rfl (Nat.le_of_ble_eq_true rfl) dL_others_251 ⟨Nat.le_of_ble_eq_true rfl, Nat.le_of_ble_eq_true rfl⟩ (fun H locs hP hD hS => ?_)
              have hP : va_P G vwCl (cat [[(h, .inr (5, [.ref (Ad 0), .ref (At 0), .ref (As 0), .ref (Ac 0), .ref (L 6 0)]))], dyW cyI Ad D, shW cyI As S, hiW cyI cyO L V, [(ag, .inl (cyI, 6, .inl (g)))], [(ap, .inl (cyI, 20, .inl (p)))], [(aw, .inl (cyI, 20, .inl (w)))], [(aq, .inl (cyI, 20, .inl (q)))], [(ar, .inl (cyI, 20, .inl (r)))]]) H := hP
              have hD : va_D A9 (cat [[(h, .inr (5, [.ref (Ad 0), .ref (At 0), .ref (As 0), .ref (Ac 0), .ref (L 6 0)]))], dyW cyI Ad D, shW cyI As S, hiW cyI cyO L V, [(ag, .inl (cyI, 6, .inl (g)))], [(ap, .inl (cyI, 20, .inl (p)))], [(aw, .inl (cyI, 20, .inl (w)))], [(aq, .inl (cyI, 20, .inl (q)))], [(ar, .inl (cyI, 20, .inl (r)))]]) := hD
              refine W.cs (cells' := 1) (slots' := 6) rfl rfl ?_
              refine lv_bipush (v := (-33 : Int32)) hx hb dL_others_254 (by decide) ?_
              refine lv_icmp_ne (tgt := 263) hx hb dL_others_256 (by decide) (fun c_256 => ?_) (fun c_256 => ?_)
              · exact absurd c_256 (by decide)
              · refine lv_iconst (v := (1 : Int32)) hx hb dL_others_259 (by decide) ?_
                refine lv_goto (tgt := 264) hx hb dL_others_260 (by decide) ?_
                refine W.widen (k := 4) (n := 38) (Nat.le_of_ble_eq_true rfl) (Nat.le_of_ble_eq_true rfl) ?_
                exact end_g (U := DS × SS × HS × (Nat → Nat → Nat) × Nat × (Nat → Int32) × (Nat → Int32) × (Nat → Int32) × (Nat → Int32)) (ok := fun u9 => RA u9.1 u9.2.2.2.2.1 u9.2.2.2.2.2.1 p u9.2.2.2.2.2.2.1 u9.2.2.2.2.2.2.2.1 u9.2.2.2.2.2.2.2.2 ∧ u9.2.2.1.1 ≤ 6) (gu := fun u9 => [[(h, .inr (5, [.ref (Ad 0), .ref (At 0), .ref (As 0), .ref (Ac 0), .ref (u9.2.2.2.1 6 0)]))], dyW cyI Ad u9.1, shW cyI As u9.2.1, hiW cyI cyO u9.2.2.2.1 u9.2.2.1, [(ag, .inl (cyI, 6, .inl (u9.2.2.2.2.2.1)))], [(ap, .inl (cyI, 20, .inl (p)))], [(aw, .inl (cyI, 20, .inl (u9.2.2.2.2.2.2.1)))], [(aq, .inl (cyI, 20, .inl (u9.2.2.2.2.2.2.2.1)))], [(ar, .inl (cyI, 20, .inl (u9.2.2.2.2.2.2.2.2)))]]) ((D, S, V, L, M, g, w, q, r)) hx hb hr hlocks hK hP hD hS (⟨hA0, hV⟩) dL_others_264
      · have c_112 : (how) = (3) := (nI_eq (a := how) (b := 3) (by omega) (by omega)).mp c_112
        refine lv_aload_n hx hb dL_others_115 rfl (lv_at hl 6 rfl) ?_
        refine lv_iconst (v := (1 : Int32)) hx hb dL_others_116 (by decide) ?_
        refine r_ild (k := 1) (n := 6) (f := g) hx hb hK hP 93 0 rfl rfl (by omega) (by omega) rfl dL_others_117 ?_
        refine top_i (x' := D.2.2.2.2.2.2.1) (hg1) ?_
        refine lv_if_gt (tgt := 126) hx hb dL_others_118 (by decide) (fun c_118 => ?_) (fun c_118 => ?_)
        · have hs1 := ho_t hst c_118
          have hm9 : (!dHO D && decide (D.2.2.1 m = 1)) = false := by rw [dho_t hs1]; rfl
          refine lv_aload_n hx hb dL_others_126 rfl (lv_at hl 3 rfl) ?_
          refine lv_iload hx hb dL_others_127 (lv_at hl 1 rfl) ?_
          refine gHi (gs := [[(h, .inr (5, [.ref (Ad 0), .ref (At 0), .ref (As 0), .ref (Ac 0), .ref (L 6 0)]))], dyW cyI Ad D, shW cyI As S, hiW cyI cyO L V, [(ag, .inl (cyI, 6, .inl (g)))], [(ap, .inl (cyI, 20, .inl (p)))], [(aw, .inl (cyI, 20, .inl (w)))], [(aq, .inl (cyI, 20, .inl (q)))], [(ar, .inl (cyI, 20, .inl (r)))]]) (As := [.ref (h), .int (nI (m))]) (rest := []) ⟨hx, hb, hml, hown, hts⟩ (t_L_leave_IS l G cyI cyO h Ad At As Ac L D m (hm) (hm9) htr) (vx_cwSW 2 hts gL_others_L_leave rfl rfl rfl (by decide +kernel) ⟨Nat.le_of_ble_eq_true rfl, Nat.le_of_ble_eq_true rfl⟩) hK hX hP hD hS hA [0, 1] rfl rfl (rfl : (2 : Nat) = 2) rfl hl.1 rfl (Nat.le_of_ble_eq_true rfl) dL_others_129 ⟨Nat.le_of_ble_eq_true rfl, Nat.le_of_ble_eq_true rfl⟩ (fun H locs hP hD hS => ?_)
          have hP : va_P G vwCl (cat [[(h, .inr (5, [.ref (Ad 0), .ref (At 0), .ref (As 0), .ref (Ac 0), .ref (L 6 0)]))], dyW cyI Ad D, shW cyI As S, hiW cyI cyO L V, [(ag, .inl (cyI, 6, .inl (g)))], [(ap, .inl (cyI, 20, .inl (p)))], [(aw, .inl (cyI, 20, .inl (w)))], [(aq, .inl (cyI, 20, .inl (q)))], [(ar, .inl (cyI, 20, .inl (r)))]]) H := hP
          have hD : va_D A9 (cat [[(h, .inr (5, [.ref (Ad 0), .ref (At 0), .ref (As 0), .ref (Ac 0), .ref (L 6 0)]))], dyW cyI Ad D, shW cyI As S, hiW cyI cyO L V, [(ag, .inl (cyI, 6, .inl (g)))], [(ap, .inl (cyI, 20, .inl (p)))], [(aw, .inl (cyI, 20, .inl (w)))], [(aq, .inl (cyI, 20, .inl (q)))], [(ar, .inl (cyI, 20, .inl (r)))]]) := hD
          refine W.cs (cells' := 1) (slots' := 6) rfl rfl ?_
          refine lv_bipush (v := (-33 : Int32)) hx hb dL_others_132 (by decide) ?_
          refine lv_icmp_ne (tgt := 151) hx hb dL_others_134 (by decide) (fun c_134 => ?_) (fun c_134 => ?_)
          · exact absurd c_134 (by decide)
          · refine lv_aload_n hx hb dL_others_137 rfl (lv_at hl 3 rfl) ?_
            refine lv_iconst (v := (-1 : Int32)) hx hb dL_others_138 (by decide) ?_
            refine gHi (gs := [[(h, .inr (5, [.ref (Ad 0), .ref (At 0), .ref (As 0), .ref (Ac 0), .ref (L 6 0)]))], dyW cyI Ad D, shW cyI As S, hiW cyI cyO L V, [(ag, .inl (cyI, 6, .inl (g)))], [(ap, .inl (cyI, 20, .inl (p)))], [(aw, .inl (cyI, 20, .inl (w)))], [(aq, .inl (cyI, 20, .inl (q)))], [(ar, .inl (cyI, 20, .inl (r)))]]) (As := [.ref (h), .int ((-1 : Int32))]) (rest := []) ⟨hx, hb, hml, hown, hts⟩ (t_L_leave_IO l G cyI cyO h Ad At As Ac L D ((-1 : Int32)) (by decide) htr) (vx_cwSW 2 hts gL_others_L_leave rfl rfl rfl (by decide +kernel) ⟨Nat.le_of_ble_eq_true rfl, Nat.le_of_ble_eq_true rfl⟩) hK hX hP hD hS hA [0, 1] rfl rfl (rfl : (2 : Nat) = 2) rfl hl.1 rfl (Nat.le_of_ble_eq_true rfl) dL_others_139 ⟨Nat.le_of_ble_eq_true rfl, Nat.le_of_ble_eq_true rfl⟩ (fun H locs hP hD hS => ?_)
            have hP : va_P G vwCl (cat [[(h, .inr (5, [.ref (Ad 0), .ref (At 0), .ref (As 0), .ref (Ac 0), .ref (L 6 0)]))], dyW cyI Ad D, shW cyI As S, hiW cyI cyO L V, [(ag, .inl (cyI, 6, .inl (g)))], [(ap, .inl (cyI, 20, .inl (p)))], [(aw, .inl (cyI, 20, .inl (w)))], [(aq, .inl (cyI, 20, .inl (q)))], [(ar, .inl (cyI, 20, .inl (r)))]]) H := hP
            have hD : va_D A9 (cat [[(h, .inr (5, [.ref (Ad 0), .ref (At 0), .ref (As 0), .ref (Ac 0), .ref (L 6 0)]))], dyW cyI Ad D, shW cyI As S, hiW cyI cyO L V, [(ag, .inl (cyI, 6, .inl (g)))], [(ap, .inl (cyI, 20, .inl (p)))], [(aw, .inl (cyI, 20, .inl (w)))], [(aq, .inl (cyI, 20, .inl (q)))], [(ar, .inl (cyI, 20, .inl (r)))]]) := hD
            refine W.cs (cells' := 2) (slots' := 12) rfl rfl ?_
            refine lv_bipush (v := (-31 : Int32)) hx hb dL_others_142 (by decide) ?_
            refine lv_icmp_ne (tgt := 151) hx hb dL_others_144 (by decide) (fun c_144 => ?_) (fun c_144 => ?_)
            · exact absurd c_144 (by decide)
            · refine lv_iconst (v := (1 : Int32)) hx hb dL_others_147 (by decide) ?_
              refine lv_goto (tgt := 152) hx hb dL_others_148 (by decide) ?_
              refine W.widen (k := 4) (n := 38) (Nat.le_of_ble_eq_true rfl) (Nat.le_of_ble_eq_true rfl) ?_
              exact end_g (U := DS × SS × HS × (Nat → Nat → Nat) × Nat × (Nat → Int32) × (Nat → Int32) × (Nat → Int32) × (Nat → Int32)) (ok := fun u9 => RA u9.1 u9.2.2.2.2.1 u9.2.2.2.2.2.1 p u9.2.2.2.2.2.2.1 u9.2.2.2.2.2.2.2.1 u9.2.2.2.2.2.2.2.2 ∧ u9.2.2.1.1 ≤ 6) (gu := fun u9 => [[(h, .inr (5, [.ref (Ad 0), .ref (At 0), .ref (As 0), .ref (Ac 0), .ref (u9.2.2.2.1 6 0)]))], dyW cyI Ad u9.1, shW cyI As u9.2.1, hiW cyI cyO u9.2.2.2.1 u9.2.2.1, [(ag, .inl (cyI, 6, .inl (u9.2.2.2.2.2.1)))], [(ap, .inl (cyI, 20, .inl (p)))], [(aw, .inl (cyI, 20, .inl (u9.2.2.2.2.2.2.1)))], [(aq, .inl (cyI, 20, .inl (u9.2.2.2.2.2.2.2.1)))], [(ar, .inl (cyI, 20, .inl (u9.2.2.2.2.2.2.2.2)))]]) ((D, S, V, L, M, g, w, q, r)) hx hb hr hlocks hK hP hD hS (⟨hA0, hV⟩) dL_others_152
        · have hst0 := ho_f hst c_118
          refine lv_iload hx hb dL_others_121 (lv_at hl 0 rfl) ?_
          refine lv_if_ne (tgt := 153) hx hb dL_others_123 (by decide) (fun c_123 => ?_) (fun c_123 => ?_)
          · have c_123 : ¬ (bt M m) = (0) := fun h9 => c_123 ((nI_eq (a := bt M m) (b := 0) (by omega) (by omega)).mpr h9)
            refine lv_aload_n hx hb dL_others_153 rfl (lv_at hl 6 rfl) ?_
            refine lv_aload hx hb dL_others_154 (lv_at hl 8 rfl) ?_
            refine lv_iload hx hb dL_others_156 (lv_at hl 1 rfl) ?_
            refine gSi (gs := [[(h, .inr (5, [.ref (Ad 0), .ref (At 0), .ref (As 0), .ref (Ac 0), .ref (L 6 0)]))], dyW cyI Ad D, shW cyI As S, hiW cyI cyO L V, [(ag, .inl (cyI, 6, .inl (g)))], [(ap, .inl (cyI, 20, .inl (p)))], [(aw, .inl (cyI, 20, .inl (w)))], [(aq, .inl (cyI, 20, .inl (q)))], [(ar, .inl (cyI, 20, .inl (r)))]]) (As := [.ref (ag), .ref (aw), .int (nI (m))]) (rest := []) ⟨hx, hb, hml, hown, hts⟩ (c_L_roundOf l G cyI cyO ag aw g w D.2.2.2.2.2.1 (nI (m)) (hn) (hg0)) (va_cwS 3 hts gL_others_L_roundOf rfl rfl rfl (by decide +kernel) ⟨Nat.le_of_ble_eq_true rfl, Nat.le_of_ble_eq_true rfl⟩) hK hP hD hS hA [4, 6] rfl rfl (rfl : (2 : Nat) = 2) rfl hl.1 rfl (Nat.le_of_ble_eq_true rfl) dL_others_158 ⟨Nat.le_of_ble_eq_true rfl, Nat.le_of_ble_eq_true rfl⟩ (fun H locs hP hD hS => ?_)
            have hP : va_P G vwCl (cat [[(h, .inr (5, [.ref (Ad 0), .ref (At 0), .ref (As 0), .ref (Ac 0), .ref (L 6 0)]))], dyW cyI Ad D, shW cyI As S, hiW cyI cyO L V, [(ag, .inl (cyI, 6, .inl (g)))], [(ap, .inl (cyI, 20, .inl (p)))], [(aw, .inl (cyI, 20, .inl (w)))], [(aq, .inl (cyI, 20, .inl (q)))], [(ar, .inl (cyI, 20, .inl (r)))]]) H := hP
            have hD : va_D A9 (cat [[(h, .inr (5, [.ref (Ad 0), .ref (At 0), .ref (As 0), .ref (Ac 0), .ref (L 6 0)]))], dyW cyI Ad D, shW cyI As S, hiW cyI cyO L V, [(ag, .inl (cyI, 6, .inl (g)))], [(ap, .inl (cyI, 20, .inl (p)))], [(aw, .inl (cyI, 20, .inl (w)))], [(aq, .inl (cyI, 20, .inl (q)))], [(ar, .inl (cyI, 20, .inl (r)))]]) := hD
            have hsz := rSz_le w D.2.2.2.2.2.1 (nI m)
            refine lv_istore (lv' := [(11, .int (nI (rSz w D.2.2.2.2.2.1 (nI (m))))), (10, .int (nI (bt M m))), (9, .int (nI (m))), (8, .int (nI (how))), (0, .ref (h)), (1, .int (x)), (2, .int (y)), (3, .ref (ag)), (4, .ref (ap)), (5, .ref (aw)), (6, .ref (aq)), (7, .ref (ar))]) hx hb dL_others_161 hl (by decide) rfl (fun ls hl => ?_)
            refine lv_aload_n hx hb dL_others_163 rfl (lv_at hl 7 rfl) ?_
            refine lv_iconst (v := (5 : Int32)) hx hb dL_others_164 (by decide) ?_
            refine lv_dup2_11 hx hb dL_others_165 rfl rfl ?_
            refine r_ild (k := 5) (n := 6) (f := g) hx hb hK hP 93 0 rfl rfl (by omega) (by omega) rfl dL_others_166 ?_
            refine top_i (x' := nI (M)) (hg5) ?_
            refine lv_iconst (v := (1 : Int32)) hx hb dL_others_167 (by decide) ?_
            refine lv_iload hx hb dL_others_168 (lv_at hl 2 rfl) ?_
            refine lv_ishl hx hb dL_others_170 ?_
            refine lv_ixor hx hb dL_others_171 ?_
            refine top_i (x' := nI (M ^^^ 2 ^ m)) (xor_all M (hM) m (by omega)) ?_
            refine r_ist (k := 5) (n := 6) (f := g) hx hb hK hP hD hS 93 0 rfl rfl (by omega) (by omega) rfl dL_others_172 (fun H locs hP hD hS => ?_)
            have hP : va_P G vwCl (cat [[(h, .inr (5, [.ref (Ad 0), .ref (At 0), .ref (As 0), .ref (Ac 0), .ref (L 6 0)]))], dyW cyI Ad D, shW cyI As S, hiW cyI cyO L V, [(ag, .inl (cyI, 6, .inl (upd g 5 (nI (M ^^^ 2 ^ m)))))], [(ap, .inl (cyI, 20, .inl (p)))], [(aw, .inl (cyI, 20, .inl (w)))], [(aq, .inl (cyI, 20, .inl (q)))], [(ar, .inl (cyI, 20, .inl (r)))]]) H := hP
            have hD : va_D A9 (cat [[(h, .inr (5, [.ref (Ad 0), .ref (At 0), .ref (As 0), .ref (Ac 0), .ref (L 6 0)]))], dyW cyI Ad D, shW cyI As S, hiW cyI cyO L V, [(ag, .inl (cyI, 6, .inl (upd g 5 (nI (M ^^^ 2 ^ m)))))], [(ap, .inl (cyI, 20, .inl (p)))], [(aw, .inl (cyI, 20, .inl (w)))], [(aq, .inl (cyI, 20, .inl (q)))], [(ar, .inl (cyI, 20, .inl (r)))]]) := hD
            refine lv_iconst (v := (0 : Int32)) hx hb dL_others_173 (by decide) ?_
            refine lv_istore (lv' := [(12, .int ((0 : Int32))), (11, .int (nI (rSz w D.2.2.2.2.2.1 (nI (m))))), (10, .int (nI (bt M m))), (9, .int (nI (m))), (8, .int (nI (how))), (0, .ref (h)), (1, .int (x)), (2, .int (y)), (3, .ref (ag)), (4, .ref (ap)), (5, .ref (aw)), (6, .ref (aq)), (7, .ref (ar))]) hx hb dL_others_174 hl (by decide) rfl (fun ls hl => ?_)
            refine W_loop (α := Nat) (I := fun a9 H locs ls => (a9 ≤ D.2.2.2.2.2.1) ∧ va_P G vwCl (cat [[(h, .inr (5, [.ref (Ad 0), .ref (At 0), .ref (As 0), .ref (Ac 0), .ref (L 6 0)]))], dyW cyI Ad D, shW cyI As S, hiW cyI cyO L V, [(ag, .inl (cyI, 6, .inl (upd g 5 (nI (M ^^^ 2 ^ m)))))], [(ap, .inl (cyI, 20, .inl (p)))], [(aw, .inl (cyI, 20, .inl (lvF m a9 w)))], [(aq, .inl (cyI, 20, .inl (q)))], [(ar, .inl (cyI, 20, .inl (r)))]]) H ∧ va_D A9 (cat [[(h, .inr (5, [.ref (Ad 0), .ref (At 0), .ref (As 0), .ref (Ac 0), .ref (L 6 0)]))], dyW cyI Ad D, shW cyI As S, hiW cyI cyO L V, [(ag, .inl (cyI, 6, .inl (upd g 5 (nI (M ^^^ 2 ^ m)))))], [(ap, .inl (cyI, 20, .inl (p)))], [(aw, .inl (cyI, 20, .inl (lvF m a9 w)))], [(aq, .inl (cyI, 20, .inl (q)))], [(ar, .inl (cyI, 20, .inl (r)))]]) ∧ va_S A9 s9.heap H locs ∧ lv_has ls 14 [(12, .int (nI (a9))), (11, .int (nI (rSz w D.2.2.2.2.2.1 (nI (m))))), (10, .int (nI (bt M m))), (9, .int (nI (m))), (8, .int (nI (how))), (0, .ref (h)), (1, .int (x)), (2, .int (y)), (3, .ref (ag)), (4, .ref (ap)), (5, .ref (aw)), (6, .ref (aq)), (7, .ref (ar))]) (μ := fun a9 => D.2.2.2.2.2.1 - a9) (st := fun a9 => []) ?_ (0) _ _ _ ⟨(show 0 ≤ D.2.2.2.2.2.1 from Nat.zero_le _), hP, hD, hS, lv_sub hl [0, 1, 2, 3, 4, 5, 6, 7, 8, 9, 10, 11, 12] rfl⟩
            intro a9 ih_176 H locs ls hI
            obtain ⟨i, ea9⟩ : ∃ z, z = a9 := ⟨_, rfl⟩
            subst ea9
            obtain ⟨hi9, hP9, hD9, hS9, hl9⟩ := hI
            have hi : i ≤ D.2.2.2.2.2.1 := hi9
            have hP : va_P G vwCl (cat [[(h, .inr (5, [.ref (Ad 0), .ref (At 0), .ref (As 0), .ref (Ac 0), .ref (L 6 0)]))], dyW cyI Ad D, shW cyI As S, hiW cyI cyO L V, [(ag, .inl (cyI, 6, .inl (upd g 5 (nI (M ^^^ 2 ^ m)))))], [(ap, .inl (cyI, 20, .inl (p)))], [(aw, .inl (cyI, 20, .inl (lvF m i w)))], [(aq, .inl (cyI, 20, .inl (q)))], [(ar, .inl (cyI, 20, .inl (r)))]]) H := hP9
            have hD : va_D A9 (cat [[(h, .inr (5, [.ref (Ad 0), .ref (At 0), .ref (As 0), .ref (Ac 0), .ref (L 6 0)]))], dyW cyI Ad D, shW cyI As S, hiW cyI cyO L V, [(ag, .inl (cyI, 6, .inl (upd g 5 (nI (M ^^^ 2 ^ m)))))], [(ap, .inl (cyI, 20, .inl (p)))], [(aw, .inl (cyI, 20, .inl (lvF m i w)))], [(aq, .inl (cyI, 20, .inl (q)))], [(ar, .inl (cyI, 20, .inl (r)))]]) := hD9
            have hS := hS9
            have hl : lv_has ls 14 [(12, .int (nI (i))), (11, .int (nI (rSz w D.2.2.2.2.2.1 (nI (m))))), (10, .int (nI (bt M m))), (9, .int (nI (m))), (8, .int (nI (how))), (0, .ref (h)), (1, .int (x)), (2, .int (y)), (3, .ref (ag)), (4, .ref (ap)), (5, .ref (aw)), (6, .ref (aq)), (7, .ref (ar))] := hl9
            clear hi9 hP9 hD9 hS9 hl9
            refine lv_iload hx hb dL_others_176 (lv_at hl 0 rfl) ?_
            refine lv_aload_n hx hb dL_others_178 rfl (lv_at hl 8 rfl) ?_
            refine lv_iconst (v := (0 : Int32)) hx hb dL_others_179 (by decide) ?_
            refine r_ild (k := 0) (n := 6) (f := upd g 5 (nI (M ^^^ 2 ^ m))) hx hb hK hP 93 0 rfl rfl (by omega) (by omega) rfl dL_others_180 ?_
            refine top_i (x' := nI (D.2.2.2.2.2.1)) (by rw [pk_un (by decide)]; exact hg0) ?_
            refine lv_icmp_ge (tgt := 214) hx hb dL_others_181 (by decide) (fun c_181 => ?_) (fun c_181 => ?_)
            · have c_181 : (D.2.2.2.2.2.1) ≤ (i) := (nI_leI (a := D.2.2.2.2.2.1) (b := i) (by omega) (by omega)).mp c_181
              obtain rfl : D.2.2.2.2.2.1 = i := by omega
              refine lv_aload_n hx hb dL_others_214 rfl (lv_at hl 5 rfl) ?_
              refine lv_iload hx hb dL_others_215 (lv_at hl 3 rfl) ?_
              refine gHi (gs := [[(h, .inr (5, [.ref (Ad 0), .ref (At 0), .ref (As 0), .ref (Ac 0), .ref (L 6 0)]))], dyW cyI Ad D, shW cyI As S, hiW cyI cyO L V, [(ag, .inl (cyI, 6, .inl (upd g 5 (nI (M ^^^ 2 ^ m)))))], [(ap, .inl (cyI, 20, .inl (p)))], [(aw, .inl (cyI, 20, .inl (lvF m D.2.2.2.2.2.1 w)))], [(aq, .inl (cyI, 20, .inl (q)))], [(ar, .inl (cyI, 20, .inl (r)))]]) (As := [.ref (h), .int (nI (m))]) (rest := []) ⟨hx, hb, hml, hown, hts⟩ (n_L_leave l G cyI cyO h Ad At As Ac L D V (by omega) (by omega) m (hm) (by rw [dho_f hst0, decide_eq_true ((w_iff hA0.1 hm).mpr c_123)]; rfl)) (vx_cwSW 2 hts gL_others_L_leave rfl rfl rfl (by decide +kernel) ⟨Nat.le_of_ble_eq_true rfl, Nat.le_of_ble_eq_true rfl⟩) hK hX hP hD hS hA [0, 1, 3] rfl rfl (rfl : (3 : Nat) = 3) rfl hl.1 rfl (Nat.le_of_ble_eq_true rfl) dL_others_217 ⟨Nat.le_of_ble_eq_true rfl, Nat.le_of_ble_eq_true rfl⟩ (fun H locs hP hD hS => ?_)
              have hP : va_P G vwCl (cat [[(h, .inr (5, [.ref (Ad 0), .ref (At 0), .ref (As 0), .ref (Ac 0), .ref (L 6 0)]))], dyW cyI Ad (dDis D m), shW cyI As S, hiW cyI cyO (svM L V) (svS V D), [(ag, .inl (cyI, 6, .inl (upd g 5 (nI (M ^^^ 2 ^ m)))))], [(ap, .inl (cyI, 20, .inl (p)))], [(aw, .inl (cyI, 20, .inl (lvF m D.2.2.2.2.2.1 w)))], [(aq, .inl (cyI, 20, .inl (q)))], [(ar, .inl (cyI, 20, .inl (r)))]]) H := hP
              have hD : va_D A9 (cat [[(h, .inr (5, [.ref (Ad 0), .ref (At 0), .ref (As 0), .ref (Ac 0), .ref (L 6 0)]))], dyW cyI Ad (dDis D m), shW cyI As S, hiW cyI cyO (svM L V) (svS V D), [(ag, .inl (cyI, 6, .inl (upd g 5 (nI (M ^^^ 2 ^ m)))))], [(ap, .inl (cyI, 20, .inl (p)))], [(aw, .inl (cyI, 20, .inl (lvF m D.2.2.2.2.2.1 w)))], [(aq, .inl (cyI, 20, .inl (q)))], [(ar, .inl (cyI, 20, .inl (r)))]]) := hD
              refine W.cs (cells' := 1) (slots' := 6) rfl rfl ?_
              refine top_i (x' := nI (rSz w D.2.2.2.2.2.1 (nI m))) (congrArg nI (leave_n hA0)) ?_
              refine lv_iload hx hb dL_others_220 (lv_at hl 1 rfl) ?_
              refine lv_icmp_ne (tgt := 229) hx hb dL_others_222 (by decide) (fun c_222 => ?_) (fun c_222 => ?_)
              · have c_222 : ¬ (rSz w D.2.2.2.2.2.1 (nI m)) = (rSz w D.2.2.2.2.2.1 (nI (m))) := fun h9 => c_222 ((nI_eq (a := rSz w D.2.2.2.2.2.1 (nI m)) (b := rSz w D.2.2.2.2.2.1 (nI (m))) (by omega) (by omega)).mpr h9)
                exact absurd rfl c_222
              · have c_222 : (rSz w D.2.2.2.2.2.1 (nI m)) = (rSz w D.2.2.2.2.2.1 (nI (m))) := (nI_eq (a := rSz w D.2.2.2.2.2.1 (nI m)) (b := rSz w D.2.2.2.2.2.1 (nI (m))) (by omega) (by omega)).mp c_222
                refine lv_iconst (v := (1 : Int32)) hx hb dL_others_225 (by decide) ?_
                refine lv_goto (tgt := 230) hx hb dL_others_226 (by decide) ?_
                refine W.widen (k := 4) (n := 38) (Nat.le_of_ble_eq_true rfl) (Nat.le_of_ble_eq_true rfl) ?_
                exact end_g (U := DS × SS × HS × (Nat → Nat → Nat) × Nat × (Nat → Int32) × (Nat → Int32) × (Nat → Int32) × (Nat → Int32)) (ok := fun u9 => RA u9.1 u9.2.2.2.2.1 u9.2.2.2.2.2.1 p u9.2.2.2.2.2.2.1 u9.2.2.2.2.2.2.2.1 u9.2.2.2.2.2.2.2.2 ∧ u9.2.2.1.1 ≤ 6) (gu := fun u9 => [[(h, .inr (5, [.ref (Ad 0), .ref (At 0), .ref (As 0), .ref (Ac 0), .ref (u9.2.2.2.1 6 0)]))], dyW cyI Ad u9.1, shW cyI As u9.2.1, hiW cyI cyO u9.2.2.2.1 u9.2.2.1, [(ag, .inl (cyI, 6, .inl (u9.2.2.2.2.2.1)))], [(ap, .inl (cyI, 20, .inl (p)))], [(aw, .inl (cyI, 20, .inl (u9.2.2.2.2.2.2.1)))], [(aq, .inl (cyI, 20, .inl (u9.2.2.2.2.2.2.2.1)))], [(ar, .inl (cyI, 20, .inl (u9.2.2.2.2.2.2.2.2)))]]) ((dDis D m, S, svS V D, svM L V, M ^^^ 2 ^ m, upd g 5 (nI (M ^^^ 2 ^ m)), lvF m D.2.2.2.2.2.1 w, q, r)) hx hb hr hlocks hK hP hD hS (⟨hA0.leave hst0 hm (by omega), svS_le hV⟩) dL_others_230
            · have c_181 : ¬ (D.2.2.2.2.2.1) ≤ (i) := fun h9 => c_181 ((nI_leI (a := D.2.2.2.2.2.1) (b := i) (by omega) (by omega)).mpr h9)
              refine lv_aload hx hb dL_others_184 (lv_at hl 10 rfl) ?_
              refine lv_iload hx hb dL_others_186 (lv_at hl 0 rfl) ?_
              refine W_join (pc2 := 207) (v := .int (if (lvF m i w) i = nI m then -1 else (lvF m i w) i)) (l2 := ls) (rest := [.int (nI (i)), .ref (aw)]) ?_ (fun j_207 => ?_)
              · refine r_ist (k := i) (n := 20) (f := lvF m i w) hx hb hK hP hD hS 95 0 rfl rfl (by omega) (by omega) rfl dL_others_207 (fun H locs hP hD hS => ?_)
                have hP : va_P G vwCl (cat [[(h, .inr (5, [.ref (Ad 0), .ref (At 0), .ref (As 0), .ref (Ac 0), .ref (L 6 0)]))], dyW cyI Ad D, shW cyI As S, hiW cyI cyO L V, [(ag, .inl (cyI, 6, .inl (upd g 5 (nI (M ^^^ 2 ^ m)))))], [(ap, .inl (cyI, 20, .inl (p)))], [(aw, .inl (cyI, 20, .inl (upd (lvF m i w) i (if (lvF m i w) i = nI m then -1 else (lvF m i w) i))))], [(aq, .inl (cyI, 20, .inl (q)))], [(ar, .inl (cyI, 20, .inl (r)))]]) H := hP
                have hD : va_D A9 (cat [[(h, .inr (5, [.ref (Ad 0), .ref (At 0), .ref (As 0), .ref (Ac 0), .ref (L 6 0)]))], dyW cyI Ad D, shW cyI As S, hiW cyI cyO L V, [(ag, .inl (cyI, 6, .inl (upd g 5 (nI (M ^^^ 2 ^ m)))))], [(ap, .inl (cyI, 20, .inl (p)))], [(aw, .inl (cyI, 20, .inl (upd (lvF m i w) i (if (lvF m i w) i = nI m then -1 else (lvF m i w) i))))], [(aq, .inl (cyI, 20, .inl (q)))], [(ar, .inl (cyI, 20, .inl (r)))]]) := hD
                refine lv_iinc (v := nI (i + 1)) (lv' := [(12, .int (nI (i + 1))), (11, .int (nI (rSz w D.2.2.2.2.2.1 (nI (m))))), (10, .int (nI (bt M m))), (9, .int (nI (m))), (8, .int (nI (how))), (0, .ref (h)), (1, .int (x)), (2, .int (y)), (3, .ref (ag)), (4, .ref (ap)), (5, .ref (aw)), (6, .ref (aq)), (7, .ref (ar))]) hx hb dL_others_208 hl (k := 0) rfl (nI_add _ _) (by decide) rfl (fun ls hl => ?_)
                refine lv_goto (tgt := 176) hx hb dL_others_211 (by decide) ?_
                exact ih_176 (i + 1) (by show (D.2.2.2.2.2.1 - (i + 1)) < (D.2.2.2.2.2.1 - i); omega) _ _ _ ⟨(show (i + 1) ≤ D.2.2.2.2.2.1 from by omega), hP, hD, hS, lv_sub hl [0, 1, 2, 3, 4, 5, 6, 7, 8, 9, 10, 11, 12] rfl⟩
              · refine lv_aload hx hb dL_others_188 (lv_at hl 10 rfl) ?_
                refine lv_iload hx hb dL_others_190 (lv_at hl 0 rfl) ?_
                refine r_ild (k := i) (n := 20) (f := lvF m i w) hx hb hK hP 95 0 rfl rfl (by omega) (by omega) rfl dL_others_192 ?_
                refine lv_iload hx hb dL_others_193 (lv_at hl 3 rfl) ?_
                refine lv_icmp_ne (tgt := 202) hx hb dL_others_195 (by decide) (fun c_195 => ?_) (fun c_195 => ?_)
                · refine lv_aload hx hb dL_others_202 (lv_at hl 10 rfl) ?_
                  refine lv_iload hx hb dL_others_204 (lv_at hl 0 rfl) ?_
                  refine r_ild (k := i) (n := 20) (f := lvF m i w) hx hb hK hP 95 0 rfl rfl (by omega) (by omega) rfl dL_others_206 ?_
                  refine top_i (x' := if (lvF m i w) i = nI m then -1 else (lvF m i w) i) (by first | rw [if_pos c_195] | rw [if_neg c_195]) ?_
                  exact j_207
                · refine lv_iconst (v := (-1 : Int32)) hx hb dL_others_198 (by decide) ?_
                  refine lv_goto (tgt := 207) hx hb dL_others_199 (by decide) ?_
                  refine top_i (x' := if (lvF m i w) i = nI m then -1 else (lvF m i w) i) (by first | rw [if_pos c_195] | rw [if_neg c_195]) ?_
                  exact j_207
          · have c_123 : (bt M m) = (0) := (nI_eq (a := bt M m) (b := 0) (by omega) (by omega)).mp c_123
            have hm9 : (!dHO D && decide (D.2.2.1 m = 1)) = false := by rw [decide_eq_false (fun h9 => (w_iff hA0.1 hm).mp h9 c_123), Bool.and_false]
            refine lv_aload_n hx hb dL_others_126 rfl (lv_at hl 3 rfl) ?_
            refine lv_iload hx hb dL_others_127 (lv_at hl 1 rfl) ?_
            refine gHi (gs := [[(h, .inr (5, [.ref (Ad 0), .ref (At 0), .ref (As 0), .ref (Ac 0), .ref (L 6 0)]))], dyW cyI Ad D, shW cyI As S, hiW cyI cyO L V, [(ag, .inl (cyI, 6, .inl (g)))], [(ap, .inl (cyI, 20, .inl (p)))], [(aw, .inl (cyI, 20, .inl (w)))], [(aq, .inl (cyI, 20, .inl (q)))], [(ar, .inl (cyI, 20, .inl (r)))]]) (As := [.ref (h), .int (nI (m))]) (rest := []) ⟨hx, hb, hml, hown, hts⟩ (t_L_leave_IS l G cyI cyO h Ad At As Ac L D m (hm) (hm9) htr) (vx_cwSW 2 hts gL_others_L_leave rfl rfl rfl (by decide +kernel) ⟨Nat.le_of_ble_eq_true rfl, Nat.le_of_ble_eq_true rfl⟩) hK hX hP hD hS hA [0, 1] rfl rfl (rfl : (2 : Nat) = 2) rfl hl.1 rfl (Nat.le_of_ble_eq_true rfl) dL_others_129 ⟨Nat.le_of_ble_eq_true rfl, Nat.le_of_ble_eq_true rfl⟩ (fun H locs hP hD hS => ?_)
            have hP : va_P G vwCl (cat [[(h, .inr (5, [.ref (Ad 0), .ref (At 0), .ref (As 0), .ref (Ac 0), .ref (L 6 0)]))], dyW cyI Ad D, shW cyI As S, hiW cyI cyO L V, [(ag, .inl (cyI, 6, .inl (g)))], [(ap, .inl (cyI, 20, .inl (p)))], [(aw, .inl (cyI, 20, .inl (w)))], [(aq, .inl (cyI, 20, .inl (q)))], [(ar, .inl (cyI, 20, .inl (r)))]]) H := hP
            have hD : va_D A9 (cat [[(h, .inr (5, [.ref (Ad 0), .ref (At 0), .ref (As 0), .ref (Ac 0), .ref (L 6 0)]))], dyW cyI Ad D, shW cyI As S, hiW cyI cyO L V, [(ag, .inl (cyI, 6, .inl (g)))], [(ap, .inl (cyI, 20, .inl (p)))], [(aw, .inl (cyI, 20, .inl (w)))], [(aq, .inl (cyI, 20, .inl (q)))], [(ar, .inl (cyI, 20, .inl (r)))]]) := hD
            refine W.cs (cells' := 1) (slots' := 6) rfl rfl ?_
            refine lv_bipush (v := (-33 : Int32)) hx hb dL_others_132 (by decide) ?_
            refine lv_icmp_ne (tgt := 151) hx hb dL_others_134 (by decide) (fun c_134 => ?_) (fun c_134 => ?_)
            · exact absurd c_134 (by decide)
            · refine lv_aload_n hx hb dL_others_137 rfl (lv_at hl 3 rfl) ?_
              refine lv_iconst (v := (-1 : Int32)) hx hb dL_others_138 (by decide) ?_
              refine gHi (gs := [[(h, .inr (5, [.ref (Ad 0), .ref (At 0), .ref (As 0), .ref (Ac 0), .ref (L 6 0)]))], dyW cyI Ad D, shW cyI As S, hiW cyI cyO L V, [(ag, .inl (cyI, 6, .inl (g)))], [(ap, .inl (cyI, 20, .inl (p)))], [(aw, .inl (cyI, 20, .inl (w)))], [(aq, .inl (cyI, 20, .inl (q)))], [(ar, .inl (cyI, 20, .inl (r)))]]) (As := [.ref (h), .int ((-1 : Int32))]) (rest := []) ⟨hx, hb, hml, hown, hts⟩ (t_L_leave_IO l G cyI cyO h Ad At As Ac L D ((-1 : Int32)) (by decide) htr) (vx_cwSW 2 hts gL_others_L_leave rfl rfl rfl (by decide +kernel) ⟨Nat.le_of_ble_eq_true rfl, Nat.le_of_ble_eq_true rfl⟩) hK hX hP hD hS hA [0, 1] rfl rfl (rfl : (2 : Nat) = 2) rfl hl.1 rfl (Nat.le_of_ble_eq_true rfl) dL_others_139 ⟨Nat.le_of_ble_eq_true rfl, Nat.le_of_ble_eq_true rfl⟩ (fun H locs hP hD hS => ?_)
              have hP : va_P G vwCl (cat [[(h, .inr (5, [.ref (Ad 0), .ref (At 0), .ref (As 0), .ref (Ac 0), .ref (L 6 0)]))], dyW cyI Ad D, shW cyI As S, hiW cyI cyO L V, [(ag, .inl (cyI, 6, .inl (g)))], [(ap, .inl (cyI, 20, .inl (p)))], [(aw, .inl (cyI, 20, .inl (w)))], [(aq, .inl (cyI, 20, .inl (q)))], [(ar, .inl (cyI, 20, .inl (r)))]]) H := hP
              have hD : va_D A9 (cat [[(h, .inr (5, [.ref (Ad 0), .ref (At 0), .ref (As 0), .ref (Ac 0), .ref (L 6 0)]))], dyW cyI Ad D, shW cyI As S, hiW cyI cyO L V, [(ag, .inl (cyI, 6, .inl (g)))], [(ap, .inl (cyI, 20, .inl (p)))], [(aw, .inl (cyI, 20, .inl (w)))], [(aq, .inl (cyI, 20, .inl (q)))], [(ar, .inl (cyI, 20, .inl (r)))]]) := hD
              refine W.cs (cells' := 2) (slots' := 12) rfl rfl ?_
              refine lv_bipush (v := (-31 : Int32)) hx hb dL_others_142 (by decide) ?_
              refine lv_icmp_ne (tgt := 151) hx hb dL_others_144 (by decide) (fun c_144 => ?_) (fun c_144 => ?_)
              · exact absurd c_144 (by decide)
              · refine lv_iconst (v := (1 : Int32)) hx hb dL_others_147 (by decide) ?_
                refine lv_goto (tgt := 152) hx hb dL_others_148 (by decide) ?_
                refine W.widen (k := 4) (n := 38) (Nat.le_of_ble_eq_true rfl) (Nat.le_of_ble_eq_true rfl) ?_
                exact end_g (U := DS × SS × HS × (Nat → Nat → Nat) × Nat × (Nat → Int32) × (Nat → Int32) × (Nat → Int32) × (Nat → Int32)) (ok := fun u9 => RA u9.1 u9.2.2.2.2.1 u9.2.2.2.2.2.1 p u9.2.2.2.2.2.2.1 u9.2.2.2.2.2.2.2.1 u9.2.2.2.2.2.2.2.2 ∧ u9.2.2.1.1 ≤ 6) (gu := fun u9 => [[(h, .inr (5, [.ref (Ad 0), .ref (At 0), .ref (As 0), .ref (Ac 0), .ref (u9.2.2.2.1 6 0)]))], dyW cyI Ad u9.1, shW cyI As u9.2.1, hiW cyI cyO u9.2.2.2.1 u9.2.2.1, [(ag, .inl (cyI, 6, .inl (u9.2.2.2.2.2.1)))], [(ap, .inl (cyI, 20, .inl (p)))], [(aw, .inl (cyI, 20, .inl (u9.2.2.2.2.2.2.1)))], [(aq, .inl (cyI, 20, .inl (u9.2.2.2.2.2.2.2.1)))], [(ar, .inl (cyI, 20, .inl (u9.2.2.2.2.2.2.2.2)))]]) ((D, S, V, L, M, g, w, q, r)) hx hb hr hlocks hK hP hD hS (⟨hA0, hV⟩) dL_others_152
    · have c_38 : ¬ (3) ≤ (how) := fun h9 => c_38 ((nI_leI (a := 3) (b := how) (by omega) (by omega)).mpr h9)
      refine lv_aload_n hx hb dL_others_41 rfl (lv_at hl 6 rfl) ?_
      refine lv_iconst (v := (1 : Int32)) hx hb dL_others_42 (by decide) ?_
      refine r_ild (k := 1) (n := 6) (f := g) hx hb hK hP 93 0 rfl rfl (by omega) (by omega) rfl dL_others_43 ?_
      refine top_i (x' := D.2.2.2.2.2.2.1) (hg1) ?_
      refine lv_if_gt (tgt := 52) hx hb dL_others_44 (by decide) (fun c_44 => ?_) (fun c_44 => ?_)
      · have hs1 := ho_t hst c_44
        have hm9 : (!dHO D && !decide (D.2.2.1 m = 1)) = false := by rw [dho_t hs1]; rfl
        refine lv_aload_n hx hb dL_others_52 rfl (lv_at hl 3 rfl) ?_
        refine lv_iload hx hb dL_others_53 (lv_at hl 1 rfl) ?_
        refine gHi (gs := [[(h, .inr (5, [.ref (Ad 0), .ref (At 0), .ref (As 0), .ref (Ac 0), .ref (L 6 0)]))], dyW cyI Ad D, shW cyI As S, hiW cyI cyO L V, [(ag, .inl (cyI, 6, .inl (g)))], [(ap, .inl (cyI, 20, .inl (p)))], [(aw, .inl (cyI, 20, .inl (w)))], [(aq, .inl (cyI, 20, .inl (q)))], [(ar, .inl (cyI, 20, .inl (r)))]]) (As := [.ref (h), .int (nI (m))]) (rest := []) ⟨hx, hb, hml, hown, hts⟩ (t_L_come_IS l G cyI cyO h Ad At As Ac L D m (hm) (hm9) htr) (vx_cwSW 2 hts gL_others_L_come rfl rfl rfl (by decide +kernel) ⟨Nat.le_of_ble_eq_true rfl, Nat.le_of_ble_eq_true rfl⟩) hK hX hP hD hS hA [0, 1] rfl rfl (rfl : (2 : Nat) = 2) rfl hl.1 rfl (Nat.le_of_ble_eq_true rfl) dL_others_55 ⟨Nat.le_of_ble_eq_true rfl, Nat.le_of_ble_eq_true rfl⟩ (fun H locs hP hD hS => ?_)
        have hP : va_P G vwCl (cat [[(h, .inr (5, [.ref (Ad 0), .ref (At 0), .ref (As 0), .ref (Ac 0), .ref (L 6 0)]))], dyW cyI Ad D, shW cyI As S, hiW cyI cyO L V, [(ag, .inl (cyI, 6, .inl (g)))], [(ap, .inl (cyI, 20, .inl (p)))], [(aw, .inl (cyI, 20, .inl (w)))], [(aq, .inl (cyI, 20, .inl (q)))], [(ar, .inl (cyI, 20, .inl (r)))]]) H := hP
        have hD : va_D A9 (cat [[(h, .inr (5, [.ref (Ad 0), .ref (At 0), .ref (As 0), .ref (Ac 0), .ref (L 6 0)]))], dyW cyI Ad D, shW cyI As S, hiW cyI cyO L V, [(ag, .inl (cyI, 6, .inl (g)))], [(ap, .inl (cyI, 20, .inl (p)))], [(aw, .inl (cyI, 20, .inl (w)))], [(aq, .inl (cyI, 20, .inl (q)))], [(ar, .inl (cyI, 20, .inl (r)))]]) := hD
        refine W.cs (cells' := 1) (slots' := 6) rfl rfl ?_
        refine lv_bipush (v := (-33 : Int32)) hx hb dL_others_58 (by decide) ?_
        refine lv_icmp_ne (tgt := 78) hx hb dL_others_60 (by decide) (fun c_60 => ?_) (fun c_60 => ?_)
        · exact absurd c_60 (by decide)
        · refine lv_aload_n hx hb dL_others_63 rfl (lv_at hl 3 rfl) ?_
          refine lv_bipush (v := (6 : Int32)) hx hb dL_others_64 (by decide) ?_
          refine gHi (gs := [[(h, .inr (5, [.ref (Ad 0), .ref (At 0), .ref (As 0), .ref (Ac 0), .ref (L 6 0)]))], dyW cyI Ad D, shW cyI As S, hiW cyI cyO L V, [(ag, .inl (cyI, 6, .inl (g)))], [(ap, .inl (cyI, 20, .inl (p)))], [(aw, .inl (cyI, 20, .inl (w)))], [(aq, .inl (cyI, 20, .inl (q)))], [(ar, .inl (cyI, 20, .inl (r)))]]) (As := [.ref (h), .int ((6 : Int32))]) (rest := []) ⟨hx, hb, hml, hown, hts⟩ (t_L_come_IO l G cyI cyO h Ad At As Ac L D ((6 : Int32)) (by decide) htr) (vx_cwSW 2 hts gL_others_L_come rfl rfl rfl (by decide +kernel) ⟨Nat.le_of_ble_eq_true rfl, Nat.le_of_ble_eq_true rfl⟩) hK hX hP hD hS hA [0, 1] rfl rfl (rfl : (2 : Nat) = 2) rfl hl.1 rfl (Nat.le_of_ble_eq_true rfl) dL_others_66 ⟨Nat.le_of_ble_eq_true rfl, Nat.le_of_ble_eq_true rfl⟩ (fun H locs hP hD hS => ?_)
          have hP : va_P G vwCl (cat [[(h, .inr (5, [.ref (Ad 0), .ref (At 0), .ref (As 0), .ref (Ac 0), .ref (L 6 0)]))], dyW cyI Ad D, shW cyI As S, hiW cyI cyO L V, [(ag, .inl (cyI, 6, .inl (g)))], [(ap, .inl (cyI, 20, .inl (p)))], [(aw, .inl (cyI, 20, .inl (w)))], [(aq, .inl (cyI, 20, .inl (q)))], [(ar, .inl (cyI, 20, .inl (r)))]]) H := hP
          have hD : va_D A9 (cat [[(h, .inr (5, [.ref (Ad 0), .ref (At 0), .ref (As 0), .ref (Ac 0), .ref (L 6 0)]))], dyW cyI Ad D, shW cyI As S, hiW cyI cyO L V, [(ag, .inl (cyI, 6, .inl (g)))], [(ap, .inl (cyI, 20, .inl (p)))], [(aw, .inl (cyI, 20, .inl (w)))], [(aq, .inl (cyI, 20, .inl (q)))], [(ar, .inl (cyI, 20, .inl (r)))]]) := hD
          refine W.cs (cells' := 2) (slots' := 12) rfl rfl ?_
          refine lv_bipush (v := (-31 : Int32)) hx hb dL_others_69 (by decide) ?_
          refine lv_icmp_ne (tgt := 78) hx hb dL_others_71 (by decide) (fun c_71 => ?_) (fun c_71 => ?_)
          · exact absurd c_71 (by decide)
          · refine lv_iconst (v := (1 : Int32)) hx hb dL_others_74 (by decide) ?_
            refine lv_goto (tgt := 79) hx hb dL_others_75 (by decide) ?_
            refine W.widen (k := 4) (n := 38) (Nat.le_of_ble_eq_true rfl) (Nat.le_of_ble_eq_true rfl) ?_
            exact end_g (U := DS × SS × HS × (Nat → Nat → Nat) × Nat × (Nat → Int32) × (Nat → Int32) × (Nat → Int32) × (Nat → Int32)) (ok := fun u9 => RA u9.1 u9.2.2.2.2.1 u9.2.2.2.2.2.1 p u9.2.2.2.2.2.2.1 u9.2.2.2.2.2.2.2.1 u9.2.2.2.2.2.2.2.2 ∧ u9.2.2.1.1 ≤ 6) (gu := fun u9 => [[(h, .inr (5, [.ref (Ad 0), .ref (At 0), .ref (As 0), .ref (Ac 0), .ref (u9.2.2.2.1 6 0)]))], dyW cyI Ad u9.1, shW cyI As u9.2.1, hiW cyI cyO u9.2.2.2.1 u9.2.2.1, [(ag, .inl (cyI, 6, .inl (u9.2.2.2.2.2.1)))], [(ap, .inl (cyI, 20, .inl (p)))], [(aw, .inl (cyI, 20, .inl (u9.2.2.2.2.2.2.1)))], [(aq, .inl (cyI, 20, .inl (u9.2.2.2.2.2.2.2.1)))], [(ar, .inl (cyI, 20, .inl (u9.2.2.2.2.2.2.2.2)))]]) ((D, S, V, L, M, g, w, q, r)) hx hb hr hlocks hK hP hD hS (⟨hA0, hV⟩) dL_others_79
      · have hst0 := ho_f hst c_44
        refine lv_iload hx hb dL_others_47 (lv_at hl 0 rfl) ?_
        refine lv_if_eq (tgt := 80) hx hb dL_others_49 (by decide) (fun c_49 => ?_) (fun c_49 => ?_)
        · have c_49 : (bt M m) = (0) := (nI_eq (a := bt M m) (b := 0) (by omega) (by omega)).mp c_49
          refine lv_aload_n hx hb dL_others_80 rfl (lv_at hl 6 rfl) ?_
          refine lv_iconst (v := (5 : Int32)) hx hb dL_others_81 (by decide) ?_
          refine lv_dup2_11 hx hb dL_others_82 rfl rfl ?_
          refine r_ild (k := 5) (n := 6) (f := g) hx hb hK hP 93 0 rfl rfl (by omega) (by omega) rfl dL_others_83 ?_
          refine top_i (x' := nI (M)) (hg5) ?_
          refine lv_iconst (v := (1 : Int32)) hx hb dL_others_84 (by decide) ?_
          refine lv_iload hx hb dL_others_85 (lv_at hl 1 rfl) ?_
          refine lv_ishl hx hb dL_others_87 ?_
          refine lv_ior hx hb dL_others_88 ?_
          refine top_i (x' := nI (M ||| 2 ^ m)) (or_all M (hM) m (by omega)) ?_
          refine r_ist (k := 5) (n := 6) (f := g) hx hb hK hP hD hS 93 0 rfl rfl (by omega) (by omega) rfl dL_others_89 (fun H locs hP hD hS => ?_)
          have hP : va_P G vwCl (cat [[(h, .inr (5, [.ref (Ad 0), .ref (At 0), .ref (As 0), .ref (Ac 0), .ref (L 6 0)]))], dyW cyI Ad D, shW cyI As S, hiW cyI cyO L V, [(ag, .inl (cyI, 6, .inl (upd g 5 (nI (M ||| 2 ^ m)))))], [(ap, .inl (cyI, 20, .inl (p)))], [(aw, .inl (cyI, 20, .inl (w)))], [(aq, .inl (cyI, 20, .inl (q)))], [(ar, .inl (cyI, 20, .inl (r)))]]) H := hP
          have hD : va_D A9 (cat [[(h, .inr (5, [.ref (Ad 0), .ref (At 0), .ref (As 0), .ref (Ac 0), .ref (L 6 0)]))], dyW cyI Ad D, shW cyI As S, hiW cyI cyO L V, [(ag, .inl (cyI, 6, .inl (upd g 5 (nI (M ||| 2 ^ m)))))], [(ap, .inl (cyI, 20, .inl (p)))], [(aw, .inl (cyI, 20, .inl (w)))], [(aq, .inl (cyI, 20, .inl (q)))], [(ar, .inl (cyI, 20, .inl (r)))]]) := hD
          refine lv_aload_n hx hb dL_others_90 rfl (lv_at hl 3 rfl) ?_
          refine lv_iload hx hb dL_others_91 (lv_at hl 1 rfl) ?_
          refine gHi (gs := [[(h, .inr (5, [.ref (Ad 0), .ref (At 0), .ref (As 0), .ref (Ac 0), .ref (L 6 0)]))], dyW cyI Ad D, shW cyI As S, hiW cyI cyO L V, [(ag, .inl (cyI, 6, .inl (upd g 5 (nI (M ||| 2 ^ m)))))], [(ap, .inl (cyI, 20, .inl (p)))], [(aw, .inl (cyI, 20, .inl (w)))], [(aq, .inl (cyI, 20, .inl (q)))], [(ar, .inl (cyI, 20, .inl (r)))]]) (As := [.ref (h), .int (nI (m))]) (rest := []) ⟨hx, hb, hml, hown, hts⟩ (n_L_come l G cyI cyO h Ad At As Ac L D V (by omega) (by omega) m (hm) (by rw [dho_f hst0, decide_eq_false (fun h9 => (w_iff hA0.1 hm).mp h9 c_49)]; rfl)) (vx_cwSW 2 hts gL_others_L_come rfl rfl rfl (by decide +kernel) ⟨Nat.le_of_ble_eq_true rfl, Nat.le_of_ble_eq_true rfl⟩) hK hX hP hD hS hA [0, 1, 3] rfl rfl (rfl : (3 : Nat) = 3) rfl hl.1 rfl (Nat.le_of_ble_eq_true rfl) dL_others_93 ⟨Nat.le_of_ble_eq_true rfl, Nat.le_of_ble_eq_true rfl⟩ (fun H locs hP hD hS => ?_)
          have hP : va_P G vwCl (cat [[(h, .inr (5, [.ref (Ad 0), .ref (At 0), .ref (As 0), .ref (Ac 0), .ref (L 6 0)]))], dyW cyI Ad (dWel D m), shW cyI As S, hiW cyI cyO (svM L V) (svS V D), [(ag, .inl (cyI, 6, .inl (upd g 5 (nI (M ||| 2 ^ m)))))], [(ap, .inl (cyI, 20, .inl (p)))], [(aw, .inl (cyI, 20, .inl (w)))], [(aq, .inl (cyI, 20, .inl (q)))], [(ar, .inl (cyI, 20, .inl (r)))]]) H := hP
          have hD : va_D A9 (cat [[(h, .inr (5, [.ref (Ad 0), .ref (At 0), .ref (As 0), .ref (Ac 0), .ref (L 6 0)]))], dyW cyI Ad (dWel D m), shW cyI As S, hiW cyI cyO (svM L V) (svS V D), [(ag, .inl (cyI, 6, .inl (upd g 5 (nI (M ||| 2 ^ m)))))], [(ap, .inl (cyI, 20, .inl (p)))], [(aw, .inl (cyI, 20, .inl (w)))], [(aq, .inl (cyI, 20, .inl (q)))], [(ar, .inl (cyI, 20, .inl (r)))]]) := hD
          refine W.cs (cells' := 1) (slots' := 6) rfl rfl ?_
          refine lv_aload_n hx hb dL_others_96 rfl (lv_at hl 6 rfl) ?_
          refine gSi (gs := [[(h, .inr (5, [.ref (Ad 0), .ref (At 0), .ref (As 0), .ref (Ac 0), .ref (L 6 0)]))], dyW cyI Ad (dWel D m), shW cyI As S, hiW cyI cyO (svM L V) (svS V D), [(ag, .inl (cyI, 6, .inl (upd g 5 (nI (M ||| 2 ^ m)))))], [(ap, .inl (cyI, 20, .inl (p)))], [(aw, .inl (cyI, 20, .inl (w)))], [(aq, .inl (cyI, 20, .inl (q)))], [(ar, .inl (cyI, 20, .inl (r)))]]) (As := [.ref (ag)]) (rest := [.int (nI (cW (upd D.2.2.1 m 1)))]) ⟨hx, hb, hml, hown, hts⟩ (c_L_men l G cyI cyO ag (upd g 5 (nI (M ||| 2 ^ m))) (M ||| 2 ^ m) (or_lt M hM m hm) (pk_us)) (va_cwS 1 hts gL_others_L_men rfl rfl rfl (by decide +kernel) ⟨Nat.le_of_ble_eq_true rfl, Nat.le_of_ble_eq_true rfl⟩) hK hP hD hS hA [4] rfl rfl (rfl : (1 : Nat) = 1) rfl hl.1 rfl (Nat.le_of_ble_eq_true rfl) dL_others_97 ⟨Nat.le_of_ble_eq_true rfl, Nat.le_of_ble_eq_true rfl⟩ (fun H locs hP hD hS => ?_)
          have hP : va_P G vwCl (cat [[(h, .inr (5, [.ref (Ad 0), .ref (At 0), .ref (As 0), .ref (Ac 0), .ref (L 6 0)]))], dyW cyI Ad (dWel D m), shW cyI As S, hiW cyI cyO (svM L V) (svS V D), [(ag, .inl (cyI, 6, .inl (upd g 5 (nI (M ||| 2 ^ m)))))], [(ap, .inl (cyI, 20, .inl (p)))], [(aw, .inl (cyI, 20, .inl (w)))], [(aq, .inl (cyI, 20, .inl (q)))], [(ar, .inl (cyI, 20, .inl (r)))]]) H := hP
          have hD : va_D A9 (cat [[(h, .inr (5, [.ref (Ad 0), .ref (At 0), .ref (As 0), .ref (Ac 0), .ref (L 6 0)]))], dyW cyI Ad (dWel D m), shW cyI As S, hiW cyI cyO (svM L V) (svS V D), [(ag, .inl (cyI, 6, .inl (upd g 5 (nI (M ||| 2 ^ m)))))], [(ap, .inl (cyI, 20, .inl (p)))], [(aw, .inl (cyI, 20, .inl (w)))], [(aq, .inl (cyI, 20, .inl (q)))], [(ar, .inl (cyI, 20, .inl (r)))]]) := hD
          have hcw := cW_le (upd D.2.2.1 m 1)
          have hmn := menN_le (M ||| 2 ^ m)
          refine lv_icmp_ne (tgt := 107) hx hb dL_others_100 (by decide) (fun c_100 => ?_) (fun c_100 => ?_)
          · have c_100 : ¬ (cW (upd D.2.2.1 m 1)) = (menN (M ||| 2 ^ m)) := fun h9 => c_100 ((nI_eq (a := cW (upd D.2.2.1 m 1)) (b := menN (M ||| 2 ^ m)) (by omega) (by omega)).mpr h9)
            exact absurd (come_men hA0 hm) c_100
          · have c_100 : (cW (upd D.2.2.1 m 1)) = (menN (M ||| 2 ^ m)) := (nI_eq (a := cW (upd D.2.2.1 m 1)) (b := menN (M ||| 2 ^ m)) (by omega) (by omega)).mp c_100
            refine lv_iconst (v := (1 : Int32)) hx hb dL_others_103 (by decide) ?_
            refine lv_goto (tgt := 108) hx hb dL_others_104 (by decide) ?_
            refine W.widen (k := 4) (n := 38) (Nat.le_of_ble_eq_true rfl) (Nat.le_of_ble_eq_true rfl) ?_
            exact end_g (U := DS × SS × HS × (Nat → Nat → Nat) × Nat × (Nat → Int32) × (Nat → Int32) × (Nat → Int32) × (Nat → Int32)) (ok := fun u9 => RA u9.1 u9.2.2.2.2.1 u9.2.2.2.2.2.1 p u9.2.2.2.2.2.2.1 u9.2.2.2.2.2.2.2.1 u9.2.2.2.2.2.2.2.2 ∧ u9.2.2.1.1 ≤ 6) (gu := fun u9 => [[(h, .inr (5, [.ref (Ad 0), .ref (At 0), .ref (As 0), .ref (Ac 0), .ref (u9.2.2.2.1 6 0)]))], dyW cyI Ad u9.1, shW cyI As u9.2.1, hiW cyI cyO u9.2.2.2.1 u9.2.2.1, [(ag, .inl (cyI, 6, .inl (u9.2.2.2.2.2.1)))], [(ap, .inl (cyI, 20, .inl (p)))], [(aw, .inl (cyI, 20, .inl (u9.2.2.2.2.2.2.1)))], [(aq, .inl (cyI, 20, .inl (u9.2.2.2.2.2.2.2.1)))], [(ar, .inl (cyI, 20, .inl (u9.2.2.2.2.2.2.2.2)))]]) ((dWel D m, S, svS V D, svM L V, M ||| 2 ^ m, upd g 5 (nI (M ||| 2 ^ m)), w, q, r)) hx hb hr hlocks hK hP hD hS (⟨hA0.come hst0 hm, svS_le hV⟩) dL_others_108
        · have c_49 : ¬ (bt M m) = (0) := fun h9 => c_49 ((nI_eq (a := bt M m) (b := 0) (by omega) (by omega)).mpr h9)
          have hm9 : (!dHO D && !decide (D.2.2.1 m = 1)) = false := by rw [decide_eq_true ((w_iff hA0.1 hm).mpr c_49), Bool.not_true, Bool.and_false]
          refine lv_aload_n hx hb dL_others_52 rfl (lv_at hl 3 rfl) ?_
          refine lv_iload hx hb dL_others_53 (lv_at hl 1 rfl) ?_
          refine gHi (gs := [[(h, .inr (5, [.ref (Ad 0), .ref (At 0), .ref (As 0), .ref (Ac 0), .ref (L 6 0)]))], dyW cyI Ad D, shW cyI As S, hiW cyI cyO L V, [(ag, .inl (cyI, 6, .inl (g)))], [(ap, .inl (cyI, 20, .inl (p)))], [(aw, .inl (cyI, 20, .inl (w)))], [(aq, .inl (cyI, 20, .inl (q)))], [(ar, .inl (cyI, 20, .inl (r)))]]) (As := [.ref (h), .int (nI (m))]) (rest := []) ⟨hx, hb, hml, hown, hts⟩ (t_L_come_IS l G cyI cyO h Ad At As Ac L D m (hm) (hm9) htr) (vx_cwSW 2 hts gL_others_L_come rfl rfl rfl (by decide +kernel) ⟨Nat.le_of_ble_eq_true rfl, Nat.le_of_ble_eq_true rfl⟩) hK hX hP hD hS hA [0, 1] rfl rfl (rfl : (2 : Nat) = 2) rfl hl.1 rfl (Nat.le_of_ble_eq_true rfl) dL_others_55 ⟨Nat.le_of_ble_eq_true rfl, Nat.le_of_ble_eq_true rfl⟩ (fun H locs hP hD hS => ?_)
          have hP : va_P G vwCl (cat [[(h, .inr (5, [.ref (Ad 0), .ref (At 0), .ref (As 0), .ref (Ac 0), .ref (L 6 0)]))], dyW cyI Ad D, shW cyI As S, hiW cyI cyO L V, [(ag, .inl (cyI, 6, .inl (g)))], [(ap, .inl (cyI, 20, .inl (p)))], [(aw, .inl (cyI, 20, .inl (w)))], [(aq, .inl (cyI, 20, .inl (q)))], [(ar, .inl (cyI, 20, .inl (r)))]]) H := hP
          have hD : va_D A9 (cat [[(h, .inr (5, [.ref (Ad 0), .ref (At 0), .ref (As 0), .ref (Ac 0), .ref (L 6 0)]))], dyW cyI Ad D, shW cyI As S, hiW cyI cyO L V, [(ag, .inl (cyI, 6, .inl (g)))], [(ap, .inl (cyI, 20, .inl (p)))], [(aw, .inl (cyI, 20, .inl (w)))], [(aq, .inl (cyI, 20, .inl (q)))], [(ar, .inl (cyI, 20, .inl (r)))]]) := hD
          refine W.cs (cells' := 1) (slots' := 6) rfl rfl ?_
          refine lv_bipush (v := (-33 : Int32)) hx hb dL_others_58 (by decide) ?_
          refine lv_icmp_ne (tgt := 78) hx hb dL_others_60 (by decide) (fun c_60 => ?_) (fun c_60 => ?_)
          · exact absurd c_60 (by decide)
          · refine lv_aload_n hx hb dL_others_63 rfl (lv_at hl 3 rfl) ?_
            refine lv_bipush (v := (6 : Int32)) hx hb dL_others_64 (by decide) ?_
            refine gHi (gs := [[(h, .inr (5, [.ref (Ad 0), .ref (At 0), .ref (As 0), .ref (Ac 0), .ref (L 6 0)]))], dyW cyI Ad D, shW cyI As S, hiW cyI cyO L V, [(ag, .inl (cyI, 6, .inl (g)))], [(ap, .inl (cyI, 20, .inl (p)))], [(aw, .inl (cyI, 20, .inl (w)))], [(aq, .inl (cyI, 20, .inl (q)))], [(ar, .inl (cyI, 20, .inl (r)))]]) (As := [.ref (h), .int ((6 : Int32))]) (rest := []) ⟨hx, hb, hml, hown, hts⟩ (t_L_come_IO l G cyI cyO h Ad At As Ac L D ((6 : Int32)) (by decide) htr) (vx_cwSW 2 hts gL_others_L_come rfl rfl rfl (by decide +kernel) ⟨Nat.le_of_ble_eq_true rfl, Nat.le_of_ble_eq_true rfl⟩) hK hX hP hD hS hA [0, 1] rfl rfl (rfl : (2 : Nat) = 2) rfl hl.1 rfl (Nat.le_of_ble_eq_true rfl) dL_others_66 ⟨Nat.le_of_ble_eq_true rfl, Nat.le_of_ble_eq_true rfl⟩ (fun H locs hP hD hS => ?_)
            have hP : va_P G vwCl (cat [[(h, .inr (5, [.ref (Ad 0), .ref (At 0), .ref (As 0), .ref (Ac 0), .ref (L 6 0)]))], dyW cyI Ad D, shW cyI As S, hiW cyI cyO L V, [(ag, .inl (cyI, 6, .inl (g)))], [(ap, .inl (cyI, 20, .inl (p)))], [(aw, .inl (cyI, 20, .inl (w)))], [(aq, .inl (cyI, 20, .inl (q)))], [(ar, .inl (cyI, 20, .inl (r)))]]) H := hP
            have hD : va_D A9 (cat [[(h, .inr (5, [.ref (Ad 0), .ref (At 0), .ref (As 0), .ref (Ac 0), .ref (L 6 0)]))], dyW cyI Ad D, shW cyI As S, hiW cyI cyO L V, [(ag, .inl (cyI, 6, .inl (g)))], [(ap, .inl (cyI, 20, .inl (p)))], [(aw, .inl (cyI, 20, .inl (w)))], [(aq, .inl (cyI, 20, .inl (q)))], [(ar, .inl (cyI, 20, .inl (r)))]]) := hD
            refine W.cs (cells' := 2) (slots' := 12) rfl rfl ?_
            refine lv_bipush (v := (-31 : Int32)) hx hb dL_others_69 (by decide) ?_
            refine lv_icmp_ne (tgt := 78) hx hb dL_others_71 (by decide) (fun c_71 => ?_) (fun c_71 => ?_)
            · exact absurd c_71 (by decide)
            · refine lv_iconst (v := (1 : Int32)) hx hb dL_others_74 (by decide) ?_
              refine lv_goto (tgt := 79) hx hb dL_others_75 (by decide) ?_
              refine W.widen (k := 4) (n := 38) (Nat.le_of_ble_eq_true rfl) (Nat.le_of_ble_eq_true rfl) ?_
              exact end_g (U := DS × SS × HS × (Nat → Nat → Nat) × Nat × (Nat → Int32) × (Nat → Int32) × (Nat → Int32) × (Nat → Int32)) (ok := fun u9 => RA u9.1 u9.2.2.2.2.1 u9.2.2.2.2.2.1 p u9.2.2.2.2.2.2.1 u9.2.2.2.2.2.2.2.1 u9.2.2.2.2.2.2.2.2 ∧ u9.2.2.1.1 ≤ 6) (gu := fun u9 => [[(h, .inr (5, [.ref (Ad 0), .ref (At 0), .ref (As 0), .ref (Ac 0), .ref (u9.2.2.2.1 6 0)]))], dyW cyI Ad u9.1, shW cyI As u9.2.1, hiW cyI cyO u9.2.2.2.1 u9.2.2.1, [(ag, .inl (cyI, 6, .inl (u9.2.2.2.2.2.1)))], [(ap, .inl (cyI, 20, .inl (p)))], [(aw, .inl (cyI, 20, .inl (u9.2.2.2.2.2.2.1)))], [(aq, .inl (cyI, 20, .inl (u9.2.2.2.2.2.2.2.1)))], [(ar, .inl (cyI, 20, .inl (u9.2.2.2.2.2.2.2.2)))]]) ((D, S, V, L, M, g, w, q, r)) hx hb hr hlocks hK hP hD hS (⟨hA0, hV⟩) dL_others_79
  · refine lv_aload_n hx hb dL_others_16 rfl (lv_at hl 5 rfl) ?_
    refine lv_iconst (v := (5 : Int32)) hx hb dL_others_17 (by decide) ?_
    refine r_ild (k := 5) (n := 6) (f := g) hx hb hK hP 93 0 rfl rfl (by omega) (by omega) rfl dL_others_18 ?_
    refine top_i (x' := nI (M)) (hg5) ?_
    refine lv_iload hx hb dL_others_19 (lv_at hl 0 rfl) ?_
    refine lv_ishr hx hb dL_others_21 ?_
    refine lv_iconst (v := (1 : Int32)) hx hb dL_others_22 (by decide) ?_
    refine lv_iand hx hb dL_others_23 ?_
    refine top_i (x' := nI (bt M m)) (bt_all M (hM) m (by omega)) ?_
    refine lv_iconst (v := (1 : Int32)) hx hb dL_others_24 (by decide) ?_
    refine lv_icmp_ne (tgt := 32) hx hb dL_others_25 (by decide) (fun c_25 => ?_) (fun c_25 => ?_)
    · have c_25 : ¬ (bt M m) = (1) := fun h9 => c_25 ((nI_eq (a := bt M m) (b := 1) (by omega) (by omega)).mpr h9)
      refine lv_iconst (v := (0 : Int32)) hx hb dL_others_32 (by decide) ?_
      refine top_i (x' := nI (bt M m)) (by first | (rw [c_25]; exact nI_01.2.symm) | (rw [show bt M m = 0 by omega]; exact nI_01.1.symm)) ?_
      exact j_33
    · have c_25 : (bt M m) = (1) := (nI_eq (a := bt M m) (b := 1) (by omega) (by omega)).mp c_25
      refine lv_iconst (v := (1 : Int32)) hx hb dL_others_28 (by decide) ?_
      refine lv_goto (tgt := 33) hx hb dL_others_29 (by decide) ?_
      refine top_i (x' := nI (bt M m)) (by first | (rw [c_25]; exact nI_01.2.symm) | (rw [show bt M m = 0 by omega]; exact nI_01.1.symm)) ?_
      exact j_33

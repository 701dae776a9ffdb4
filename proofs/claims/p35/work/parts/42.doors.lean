/-! ===== the law's turns: doorsteps ===== -/

abbrev rm_L_doors : Room := { frames := 9, cells := 4, slots := 24, locals := 149 }
set_option maxHeartbeats 4000000 in
set_option maxRecDepth 100000 in
theorem c_L_doors (l : Launch) (G : va_G) (cyI cyO : ClassId) (h : Nat) (Ad At As Ac : Nat → Nat) (L : Nat → Nat → Nat) (ag ap aw : Nat) (D : DS) (V : HS) (hV : V.1 ≤ 6) (M : Nat) (g p w q r : Nat → Int32) (x y : Int32) (hA0 : RA D M g p w q r) (htr : l.stackTraces = false) : CG (DS × HS × (Nat → Nat → Nat) × (Nat → Int32) × (Nat → Int32) × (Nat → Int32)) l G (TY cyI cyO) yL_doors wsL_doors rm_L_doors [.ref (h), .int (x), .int (y), .ref (ag), .ref (ap), .ref (aw)] [[(h, .inr (5, [.ref (Ad 0), .ref (At 0), .ref (As 0), .ref (Ac 0), .ref (L 6 0)]))], dyW cyI Ad D, hiW cyI cyO L V, [(ag, .inl (cyI, 6, .inl (g)))], [(ap, .inl (cyI, 20, .inl (p)))], [(aw, .inl (cyI, 20, .inl (w)))]] (fun u9 => RA u9.1 M u9.2.2.2.1 u9.2.2.2.2.1 u9.2.2.2.2.2 q r ∧ u9.2.1.1 ≤ 6) (fun u9 => [[(h, .inr (5, [.ref (Ad 0), .ref (At 0), .ref (As 0), .ref (Ac 0), .ref (u9.2.2.1 6 0)]))], dyW cyI Ad u9.1, hiW cyI cyO u9.2.2.1 u9.2.1, [(ag, .inl (cyI, 6, .inl (u9.2.2.2.1)))], [(ap, .inl (cyI, 20, .inl (u9.2.2.2.2.1)))], [(aw, .inl (cyI, 20, .inl (u9.2.2.2.2.2)))]]) 4 24 := by
  refine wk_G (cc := cL_doors) (maxL := 10) (ret := (some .boolean)) (by decide) rfl (Nat.le_of_ble_eq_true rfl) ?_
  intro p9 e9 s9 m9 b9 t9 c9 A9 ls hx hb hr hts hown hlocks hml hK hA hD hP hl hS hX
  have hl : lv_has ls 10 [(0, .ref (h)), (1, .int (x)), (2, .int (y)), (3, .ref (ag)), (4, .ref (ap)), (5, .ref (aw))] := hl
  obtain ⟨⟨hM, hn, hW, hPO, hp9, hOw, hg0, hg1, hg2, hg3, hg4, hg5, hst, hq0⟩, hRH⟩ := id hA0
  refine lv_iload_n hx hb dL_doors_0 rfl (lv_at hl 1 rfl) ?_
  refine lv_bipush (v := (8 : Int32)) hx hb dL_doors_1 (by decide) ?_
  refine gSi (gs := [[(h, .inr (5, [.ref (Ad 0), .ref (At 0), .ref (As 0), .ref (Ac 0), .ref (L 6 0)]))], dyW cyI Ad D, hiW cyI cyO L V, [(ag, .inl (cyI, 6, .inl (g)))], [(ap, .inl (cyI, 20, .inl (p)))], [(aw, .inl (cyI, 20, .inl (w)))]]) (As := [.int (x), .int ((8 : Int32))]) (rest := []) ⟨hx, hb, hml, hown, hts⟩ (c_L_low l G cyI cyO x 8 (by omega) (by omega)) (va_cwS 2 hts gL_doors_L_low rfl rfl rfl (by decide +kernel) ⟨Nat.le_of_ble_eq_true rfl, Nat.le_of_ble_eq_true rfl⟩) hK hP hD hS hA [] rfl rfl (rfl : (0 : Nat) = 0) rfl hl.1 rfl (Nat.le_of_ble_eq_true rfl) dL_doors_3 ⟨Nat.le_of_ble_eq_true rfl, Nat.le_of_ble_eq_true rfl⟩ (fun H locs hP hD hS => ?_)
  have hP : va_P G vwCl (cat [[(h, .inr (5, [.ref (Ad 0), .ref (At 0), .ref (As 0), .ref (Ac 0), .ref (L 6 0)]))], dyW cyI Ad D, hiW cyI cyO L V, [(ag, .inl (cyI, 6, .inl (g)))], [(ap, .inl (cyI, 20, .inl (p)))], [(aw, .inl (cyI, 20, .inl (w)))]]) H := hP
  have hD : va_D A9 (cat [[(h, .inr (5, [.ref (Ad 0), .ref (At 0), .ref (As 0), .ref (Ac 0), .ref (L 6 0)]))], dyW cyI Ad D, hiW cyI cyO L V, [(ag, .inl (cyI, 6, .inl (g)))], [(ap, .inl (cyI, 20, .inl (p)))], [(aw, .inl (cyI, 20, .inl (w)))]]) := hD
  obtain ⟨how, ehow⟩ : ∃ z, z = lowN x 8 := ⟨_, rfl⟩
  have hhow : how < 8 := by rw [ehow]; exact lowN_lt _ (by decide)
  refine top_i (x' := nI (how)) (congrArg nI ehow.symm) ?_
  refine lv_istore (lv' := [(6, .int (nI (how))), (0, .ref (h)), (1, .int (x)), (2, .int (y)), (3, .ref (ag)), (4, .ref (ap)), (5, .ref (aw))]) hx hb dL_doors_6 hl (by decide) rfl (fun ls hl => ?_)
  refine lv_iload hx hb dL_doors_8 (lv_at hl 0 rfl) ?_
  refine lv_iconst (v := (5 : Int32)) hx hb dL_doors_10 (by decide) ?_
  refine lv_icmp_ge (tgt := 118) hx hb dL_doors_11 (by decide) (fun c_11 => ?_) (fun c_11 => ?_)
  · have c_11 : (5) ≤ (how) := (nI_leI (a := 5) (b := how) (by omega) (by omega)).mp c_11
    refine lv_iload_n hx hb dL_doors_118 rfl (lv_at hl 3 rfl) ?_
    refine lv_aload_n hx hb dL_doors_119 rfl (lv_at hl 4 rfl) ?_
    refine lv_iconst (v := (0 : Int32)) hx hb dL_doors_120 (by decide) ?_
    refine r_ild (k := 0) (n := 6) (f := g) hx hb hK hP 80 0 rfl rfl (by omega) (by omega) rfl dL_doors_121 ?_
    refine top_i (x' := nI (D.2.2.2.2.2.1)) (hg0) ?_
    refine lv_iconst (v := (1 : Int32)) hx hb dL_doors_122 (by decide) ?_
    refine lv_iadd hx hb dL_doors_123 ?_
    refine top_i (x' := nI (D.2.2.2.2.2.1 + 1)) (nI_add (D.2.2.2.2.2.1) (1)) ?_
    refine gSi (gs := [[(h, .inr (5, [.ref (Ad 0), .ref (At 0), .ref (As 0), .ref (Ac 0), .ref (L 6 0)]))], dyW cyI Ad D, hiW cyI cyO L V, [(ag, .inl (cyI, 6, .inl (g)))], [(ap, .inl (cyI, 20, .inl (p)))], [(aw, .inl (cyI, 20, .inl (w)))]]) (As := [.int (y), .int (nI (D.2.2.2.2.2.1 + 1))]) (rest := []) ⟨hx, hb, hml, hown, hts⟩ (c_L_low l G cyI cyO y (D.2.2.2.2.2.1 + 1) (by omega) (by omega)) (va_cwS 2 hts gL_doors_L_low rfl rfl rfl (by decide +kernel) ⟨Nat.le_of_ble_eq_true rfl, Nat.le_of_ble_eq_true rfl⟩) hK hP hD hS hA [] rfl rfl (rfl : (0 : Nat) = 0) rfl hl.1 rfl (Nat.le_of_ble_eq_true rfl) dL_doors_124 ⟨Nat.le_of_ble_eq_true rfl, Nat.le_of_ble_eq_true rfl⟩ (fun H locs hP hD hS => ?_)
    have hP : va_P G vwCl (cat [[(h, .inr (5, [.ref (Ad 0), .ref (At 0), .ref (As 0), .ref (Ac 0), .ref (L 6 0)]))], dyW cyI Ad D, hiW cyI cyO L V, [(ag, .inl (cyI, 6, .inl (g)))], [(ap, .inl (cyI, 20, .inl (p)))], [(aw, .inl (cyI, 20, .inl (w)))]]) H := hP
    have hD : va_D A9 (cat [[(h, .inr (5, [.ref (Ad 0), .ref (At 0), .ref (As 0), .ref (Ac 0), .ref (L 6 0)]))], dyW cyI Ad D, hiW cyI cyO L V, [(ag, .inl (cyI, 6, .inl (g)))], [(ap, .inl (cyI, 20, .inl (p)))], [(aw, .inl (cyI, 20, .inl (w)))]]) := hD
    obtain ⟨dd, edd⟩ : ∃ z, z = lowN y (D.2.2.2.2.2.1 + 1) := ⟨_, rfl⟩
    have hdd : dd < D.2.2.2.2.2.1 + 1 := by rw [edd]; exact lowN_lt _ (Nat.succ_pos _)
    refine top_i (x' := nI (dd)) (congrArg nI edd.symm) ?_
    refine lv_istore (lv' := [(7, .int (nI (dd))), (6, .int (nI (how))), (0, .ref (h)), (1, .int (x)), (2, .int (y)), (3, .ref (ag)), (4, .ref (ap)), (5, .ref (aw))]) hx hb dL_doors_127 hl (by decide) rfl (fun ls hl => ?_)
    refine lv_iload hx hb dL_doors_129 (lv_at hl 0 rfl) ?_
    refine lv_aload_n hx hb dL_doors_131 rfl (lv_at hl 5 rfl) ?_
    refine lv_iconst (v := (0 : Int32)) hx hb dL_doors_132 (by decide) ?_
    refine r_ild (k := 0) (n := 6) (f := g) hx hb hK hP 80 0 rfl rfl (by omega) (by omega) rfl dL_doors_133 ?_
    refine top_i (x' := nI (D.2.2.2.2.2.1)) (hg0) ?_
    refine lv_icmp_ne (tgt := 188) hx hb dL_doors_134 (by decide) (fun c_134 => ?_) (fun c_134 => ?_)
    · have c_134 : ¬ (dd) = (D.2.2.2.2.2.1) := fun h9 => c_134 ((nI_eq (a := dd) (b := D.2.2.2.2.2.1) (by omega) (by omega)).mpr h9)
      refine lv_iload hx hb dL_doors_188 (lv_at hl 1 rfl) ?_
      refine lv_bipush (v := (7 : Int32)) hx hb dL_doors_190 (by decide) ?_
      refine lv_icmp_ge (tgt := 253) hx hb dL_doors_192 (by decide) (fun c_192 => ?_) (fun c_192 => ?_)
      · have c_192 : (7) ≤ (how) := (nI_leI (a := 7) (b := how) (by omega) (by omega)).mp c_192
        refine lv_aload_n hx hb dL_doors_253 rfl (lv_at hl 5 rfl) ?_
        refine lv_iconst (v := (1 : Int32)) hx hb dL_doors_254 (by decide) ?_
        refine r_ild (k := 1) (n := 6) (f := g) hx hb hK hP 80 0 rfl rfl (by omega) (by omega) rfl dL_doors_255 ?_
        refine top_i (x' := D.2.2.2.2.2.2.1) (hg1) ?_
        refine lv_if_le (tgt := 276) hx hb dL_doors_256 (by decide) (fun c_256 => ?_) (fun c_256 => ?_)
        · have hst0 := (ho_l hst).mp c_256
          refine lv_aload hx hb dL_doors_276 (lv_at hl 7 rfl) ?_
          refine lv_iload hx hb dL_doors_278 (lv_at hl 0 rfl) ?_
          refine r_ild (k := dd) (n := 20) (f := w) hx hb hK hP 82 0 rfl rfl (by omega) (by omega) rfl dL_doors_280 ?_
          refine lv_istore (lv' := [(8, .int (w dd)), (7, .int (nI (dd))), (6, .int (nI (how))), (0, .ref (h)), (1, .int (x)), (2, .int (y)), (3, .ref (ag)), (4, .ref (ap)), (5, .ref (aw))]) hx hb dL_doors_281 hl (by decide) rfl (fun ls hl => ?_)
          refine lv_aload_n hx hb dL_doors_283 rfl (lv_at hl 6 rfl) ?_
          refine lv_iconst (v := (0 : Int32)) hx hb dL_doors_284 (by decide) ?_
          refine lv_dup2_11 hx hb dL_doors_285 rfl rfl ?_
          refine r_ild (k := 0) (n := 6) (f := g) hx hb hK hP 80 0 rfl rfl (by omega) (by omega) rfl dL_doors_286 ?_
          refine top_i (x' := nI (D.2.2.2.2.2.1)) (hg0) ?_
          refine lv_iconst (v := (1 : Int32)) hx hb dL_doors_287 (by decide) ?_
          refine lv_isub hx hb dL_doors_288 ?_
          refine top_i (x' := nI (D.2.2.2.2.2.1 - 1)) (pk_sub (a := D.2.2.2.2.2.1) (b := 1) (by omega)) ?_
          refine r_ist (k := 0) (n := 6) (f := g) hx hb hK hP hD hS 80 0 rfl rfl (by omega) (by omega) rfl dL_doors_289 (fun H locs hP hD hS => ?_)
          have hP : va_P G vwCl (cat [[(h, .inr (5, [.ref (Ad 0), .ref (At 0), .ref (As 0), .ref (Ac 0), .ref (L 6 0)]))], dyW cyI Ad D, hiW cyI cyO L V, [(ag, .inl (cyI, 6, .inl (upd g 0 (nI (D.2.2.2.2.2.1 - 1)))))], [(ap, .inl (cyI, 20, .inl (p)))], [(aw, .inl (cyI, 20, .inl (w)))]]) H := hP
          have hD : va_D A9 (cat [[(h, .inr (5, [.ref (Ad 0), .ref (At 0), .ref (As 0), .ref (Ac 0), .ref (L 6 0)]))], dyW cyI Ad D, hiW cyI cyO L V, [(ag, .inl (cyI, 6, .inl (upd g 0 (nI (D.2.2.2.2.2.1 - 1)))))], [(ap, .inl (cyI, 20, .inl (p)))], [(aw, .inl (cyI, 20, .inl (w)))]]) := hD
          refine lv_iload hx hb dL_doors_290 (lv_at hl 1 rfl) ?_
          refine lv_istore (lv' := [(9, .int (nI (dd))), (8, .int (w dd)), (7, .int (nI (dd))), (6, .int (nI (how))), (0, .ref (h)), (1, .int (x)), (2, .int (y)), (3, .ref (ag)), (4, .ref (ap)), (5, .ref (aw))]) hx hb dL_doors_292 hl (by decide) rfl (fun ls hl => ?_)
          refine W_loop (α := Nat) (I := fun a9 H locs ls => (dd + a9 ≤ D.2.2.2.2.2.1 - 1) ∧ va_P G vwCl (cat [[(h, .inr (5, [.ref (Ad 0), .ref (At 0), .ref (As 0), .ref (Ac 0), .ref (L 6 0)]))], dyW cyI Ad D, hiW cyI cyO L V, [(ag, .inl (cyI, 6, .inl (upd g 0 (nI (D.2.2.2.2.2.1 - 1)))))], [(ap, .inl (cyI, 20, .inl (gapF dd a9 p)))], [(aw, .inl (cyI, 20, .inl (gapF dd a9 w)))]]) H ∧ va_D A9 (cat [[(h, .inr (5, [.ref (Ad 0), .ref (At 0), .ref (As 0), .ref (Ac 0), .ref (L 6 0)]))], dyW cyI Ad D, hiW cyI cyO L V, [(ag, .inl (cyI, 6, .inl (upd g 0 (nI (D.2.2.2.2.2.1 - 1)))))], [(ap, .inl (cyI, 20, .inl (gapF dd a9 p)))], [(aw, .inl (cyI, 20, .inl (gapF dd a9 w)))]]) ∧ va_S A9 s9.heap H locs ∧ lv_has ls 10 [(9, .int (nI (dd + a9))), (8, .int (w dd)), (7, .int (nI (dd))), (6, .int (nI (how))), (0, .ref (h)), (1, .int (x)), (2, .int (y)), (3, .ref (ag)), (4, .ref (ap)), (5, .ref (aw))]) (μ := fun a9 => D.2.2.2.2.2.1 - 1 - (dd + a9)) (st := fun a9 => []) ?_ (0) _ _ _ ⟨(show dd + 0 ≤ D.2.2.2.2.2.1 - 1 from by omega), hP, hD, hS, lv_sub hl [0, 1, 2, 3, 4, 5, 6, 7, 8, 9] rfl⟩
          intro a9 ih_294 H locs ls hI
          obtain ⟨t, ea9⟩ : ∃ z, z = a9 := ⟨_, rfl⟩
          subst ea9
          obtain ⟨ht9, hP9, hD9, hS9, hl9⟩ := hI
          have ht : dd + t ≤ D.2.2.2.2.2.1 - 1 := ht9
          have hP : va_P G vwCl (cat [[(h, .inr (5, [.ref (Ad 0), .ref (At 0), .ref (As 0), .ref (Ac 0), .ref (L 6 0)]))], dyW cyI Ad D, hiW cyI cyO L V, [(ag, .inl (cyI, 6, .inl (upd g 0 (nI (D.2.2.2.2.2.1 - 1)))))], [(ap, .inl (cyI, 20, .inl (gapF dd t p)))], [(aw, .inl (cyI, 20, .inl (gapF dd t w)))]]) H := hP9
          have hD : va_D A9 (cat [[(h, .inr (5, [.ref (Ad 0), .ref (At 0), .ref (As 0), .ref (Ac 0), .ref (L 6 0)]))], dyW cyI Ad D, hiW cyI cyO L V, [(ag, .inl (cyI, 6, .inl (upd g 0 (nI (D.2.2.2.2.2.1 - 1)))))], [(ap, .inl (cyI, 20, .inl (gapF dd t p)))], [(aw, .inl (cyI, 20, .inl (gapF dd t w)))]]) := hD9
          have hS := hS9
          have hl : lv_has ls 10 [(9, .int (nI (dd + t))), (8, .int (w dd)), (7, .int (nI (dd))), (6, .int (nI (how))), (0, .ref (h)), (1, .int (x)), (2, .int (y)), (3, .ref (ag)), (4, .ref (ap)), (5, .ref (aw))] := hl9
          clear ht9 hP9 hD9 hS9 hl9
          refine lv_iload hx hb dL_doors_294 (lv_at hl 0 rfl) ?_
          refine lv_aload_n hx hb dL_doors_296 rfl (lv_at hl 7 rfl) ?_
          refine lv_iconst (v := (0 : Int32)) hx hb dL_doors_297 (by decide) ?_
          refine r_ild (k := 0) (n := 6) (f := upd g 0 (nI (D.2.2.2.2.2.1 - 1))) hx hb hK hP 80 0 rfl rfl (by omega) (by omega) rfl dL_doors_298 ?_
          refine top_i (x' := nI (D.2.2.2.2.2.1 - 1)) (pk_us) ?_
          refine lv_icmp_ge (tgt := 332) hx hb dL_doors_299 (by decide) (fun c_299 => ?_) (fun c_299 => ?_)
          · have c_299 : (D.2.2.2.2.2.1 - 1) ≤ (dd + t) := (nI_leI (a := D.2.2.2.2.2.1 - 1) (b := dd + t) (by omega) (by omega)).mp c_299
            obtain rfl : D.2.2.2.2.2.1 - 1 - dd = t := by omega
            refine lv_aload_n hx hb dL_doors_332 rfl (lv_at hl 4 rfl) ?_
            refine lv_iload hx hb dL_doors_333 (lv_at hl 2 rfl) ?_
            refine gHi (gs := [[(h, .inr (5, [.ref (Ad 0), .ref (At 0), .ref (As 0), .ref (Ac 0), .ref (L 6 0)]))], dyW cyI Ad D, hiW cyI cyO L V, [(ag, .inl (cyI, 6, .inl (upd g 0 (nI (D.2.2.2.2.2.1 - 1)))))], [(ap, .inl (cyI, 20, .inl (gapF dd (D.2.2.2.2.2.1 - 1 - dd) p)))], [(aw, .inl (cyI, 20, .inl (gapF dd (D.2.2.2.2.2.1 - 1 - dd) w)))]]) (As := [.ref (h), .int (nI (dd))]) (rest := []) ⟨hx, hb, hml, hown, hts⟩ (n_L_removeDoorstep l G cyI cyO h Ad At As Ac L D V (by omega) (by omega) dd (by omega) (dho_f hst0)) (vx_cwSW 2 hts gL_doors_L_removeDoorstep rfl rfl rfl (by decide +kernel) ⟨Nat.le_of_ble_eq_true rfl, Nat.le_of_ble_eq_true rfl⟩) hK hX hP hD hS hA [0, 1, 2] rfl rfl (rfl : (3 : Nat) = 3) rfl hl.1 rfl (Nat.le_of_ble_eq_true rfl) dL_doors_335 ⟨Nat.le_of_ble_eq_true rfl, Nat.le_of_ble_eq_true rfl⟩ (fun H locs hP hD hS => ?_)
            have hP : va_P G vwCl (cat [[(h, .inr (5, [.ref (Ad 0), .ref (At 0), .ref (As 0), .ref (Ac 0), .ref (L 6 0)]))], dyW cyI Ad (dRem D dd), hiW cyI cyO (svM L V) (svS V D), [(ag, .inl (cyI, 6, .inl (upd g 0 (nI (D.2.2.2.2.2.1 - 1)))))], [(ap, .inl (cyI, 20, .inl (gapF dd (D.2.2.2.2.2.1 - 1 - dd) p)))], [(aw, .inl (cyI, 20, .inl (gapF dd (D.2.2.2.2.2.1 - 1 - dd) w)))]]) H := hP
            have hD : va_D A9 (cat [[(h, .inr (5, [.ref (Ad 0), .ref (At 0), .ref (As 0), .ref (Ac 0), .ref (L 6 0)]))], dyW cyI Ad (dRem D dd), hiW cyI cyO (svM L V) (svS V D), [(ag, .inl (cyI, 6, .inl (upd g 0 (nI (D.2.2.2.2.2.1 - 1)))))], [(ap, .inl (cyI, 20, .inl (gapF dd (D.2.2.2.2.2.1 - 1 - dd) p)))], [(aw, .inl (cyI, 20, .inl (gapF dd (D.2.2.2.2.2.1 - 1 - dd) w)))]]) := hD
            refine W.cs (cells' := 1) (slots' := 6) rfl rfl ?_
            refine lv_iload hx hb dL_doors_338 (lv_at hl 1 rfl) ?_
            refine lv_icmp_ne (tgt := 347) hx hb dL_doors_340 (by decide) (fun c_340 => ?_) (fun c_340 => ?_)
            · exact absurd ((hPO dd (by omega)).2).symm c_340
            · refine lv_iconst (v := (1 : Int32)) hx hb dL_doors_343 (by decide) ?_
              refine lv_goto (tgt := 348) hx hb dL_doors_344 (by decide) ?_
              refine W.widen (k := 4) (n := 24) (Nat.le_of_ble_eq_true rfl) (Nat.le_of_ble_eq_true rfl) ?_
              exact end_g (U := DS × HS × (Nat → Nat → Nat) × (Nat → Int32) × (Nat → Int32) × (Nat → Int32)) (ok := fun u9 => RA u9.1 M u9.2.2.2.1 u9.2.2.2.2.1 u9.2.2.2.2.2 q r ∧ u9.2.1.1 ≤ 6) (gu := fun u9 => [[(h, .inr (5, [.ref (Ad 0), .ref (At 0), .ref (As 0), .ref (Ac 0), .ref (u9.2.2.1 6 0)]))], dyW cyI Ad u9.1, hiW cyI cyO u9.2.2.1 u9.2.1, [(ag, .inl (cyI, 6, .inl (u9.2.2.2.1)))], [(ap, .inl (cyI, 20, .inl (u9.2.2.2.2.1)))], [(aw, .inl (cyI, 20, .inl (u9.2.2.2.2.2)))]]) ((dRem D dd, svS V D, svM L V, upd g 0 (nI (D.2.2.2.2.2.1 - 1)), gapF dd (D.2.2.2.2.2.1 - 1 - dd) p, gapF dd (D.2.2.2.2.2.1 - 1 - dd) w)) hx hb hr hlocks hK hP hD hS (⟨hA0.rem hst0 (by omega), svS_le hV⟩) dL_doors_348
          · have c_299 : ¬ (D.2.2.2.2.2.1 - 1) ≤ (dd + t) := fun h9 => c_299 ((nI_leI (a := D.2.2.2.2.2.1 - 1) (b := dd + t) (by omega) (by omega)).mpr h9)
            refine lv_aload hx hb dL_doors_302 (lv_at hl 8 rfl) ?_
            refine lv_iload hx hb dL_doors_304 (lv_at hl 0 rfl) ?_
            refine lv_aload hx hb dL_doors_306 (lv_at hl 8 rfl) ?_
            refine lv_iload hx hb dL_doors_308 (lv_at hl 0 rfl) ?_
            refine lv_iconst (v := (1 : Int32)) hx hb dL_doors_310 (by decide) ?_
            refine lv_iadd hx hb dL_doors_311 ?_
            refine top_i (x' := nI ((dd + t) + 1)) (nI_add (dd + t) (1)) ?_
            refine r_ild (k := (dd + t) + 1) (n := 20) (f := gapF dd t p) hx hb hK hP 81 0 rfl rfl (by omega) (by omega) rfl dL_doors_312 ?_
            refine r_ist (k := dd + t) (n := 20) (f := gapF dd t p) hx hb hK hP hD hS 81 0 rfl rfl (by omega) (by omega) rfl dL_doors_313 (fun H locs hP hD hS => ?_)
            have hP : va_P G vwCl (cat [[(h, .inr (5, [.ref (Ad 0), .ref (At 0), .ref (As 0), .ref (Ac 0), .ref (L 6 0)]))], dyW cyI Ad D, hiW cyI cyO L V, [(ag, .inl (cyI, 6, .inl (upd g 0 (nI (D.2.2.2.2.2.1 - 1)))))], [(ap, .inl (cyI, 20, .inl (upd (gapF dd t p) (dd + t) ((gapF dd t p) ((dd + t) + 1)))))], [(aw, .inl (cyI, 20, .inl (gapF dd t w)))]]) H := hP
            have hD : va_D A9 (cat [[(h, .inr (5, [.ref (Ad 0), .ref (At 0), .ref (As 0), .ref (Ac 0), .ref (L 6 0)]))], dyW cyI Ad D, hiW cyI cyO L V, [(ag, .inl (cyI, 6, .inl (upd g 0 (nI (D.2.2.2.2.2.1 - 1)))))], [(ap, .inl (cyI, 20, .inl (upd (gapF dd t p) (dd + t) ((gapF dd t p) ((dd + t) + 1)))))], [(aw, .inl (cyI, 20, .inl (gapF dd t w)))]]) := hD
            refine lv_aload hx hb dL_doors_314 (lv_at hl 9 rfl) ?_
            refine lv_iload hx hb dL_doors_316 (lv_at hl 0 rfl) ?_
            refine lv_aload hx hb dL_doors_318 (lv_at hl 9 rfl) ?_
            refine lv_iload hx hb dL_doors_320 (lv_at hl 0 rfl) ?_
            refine lv_iconst (v := (1 : Int32)) hx hb dL_doors_322 (by decide) ?_
            refine lv_iadd hx hb dL_doors_323 ?_
            refine top_i (x' := nI ((dd + t) + 1)) (nI_add (dd + t) (1)) ?_
            refine r_ild (k := (dd + t) + 1) (n := 20) (f := gapF dd t w) hx hb hK hP 82 0 rfl rfl (by omega) (by omega) rfl dL_doors_324 ?_
            refine r_ist (k := dd + t) (n := 20) (f := gapF dd t w) hx hb hK hP hD hS 82 0 rfl rfl (by omega) (by omega) rfl dL_doors_325 (fun H locs hP hD hS => ?_)
            have hP : va_P G vwCl (cat [[(h, .inr (5, [.ref (Ad 0), .ref (At 0), .ref (As 0), .ref (Ac 0), .ref (L 6 0)]))], dyW cyI Ad D, hiW cyI cyO L V, [(ag, .inl (cyI, 6, .inl (upd g 0 (nI (D.2.2.2.2.2.1 - 1)))))], [(ap, .inl (cyI, 20, .inl (upd (gapF dd t p) (dd + t) ((gapF dd t p) ((dd + t) + 1)))))], [(aw, .inl (cyI, 20, .inl (upd (gapF dd t w) (dd + t) ((gapF dd t w) ((dd + t) + 1)))))]]) H := hP
            have hD : va_D A9 (cat [[(h, .inr (5, [.ref (Ad 0), .ref (At 0), .ref (As 0), .ref (Ac 0), .ref (L 6 0)]))], dyW cyI Ad D, hiW cyI cyO L V, [(ag, .inl (cyI, 6, .inl (upd g 0 (nI (D.2.2.2.2.2.1 - 1)))))], [(ap, .inl (cyI, 20, .inl (upd (gapF dd t p) (dd + t) ((gapF dd t p) ((dd + t) + 1)))))], [(aw, .inl (cyI, 20, .inl (upd (gapF dd t w) (dd + t) ((gapF dd t w) ((dd + t) + 1)))))]]) := hD
            refine lv_iinc (v := nI (dd + (t + 1))) (lv' := [(9, .int (nI (dd + (t + 1)))), (8, .int (w dd)), (7, .int (nI (dd))), (6, .int (nI (how))), (0, .ref (h)), (1, .int (x)), (2, .int (y)), (3, .ref (ag)), (4, .ref (ap)), (5, .ref (aw))]) hx hb dL_doors_326 hl (k := 0) rfl (nI_add _ _) (by decide) rfl (fun ls hl => ?_)
            refine lv_goto (tgt := 294) hx hb dL_doors_329 (by decide) ?_
            exact ih_294 (t + 1) (by show (D.2.2.2.2.2.1 - 1 - (dd + (t + 1))) < (D.2.2.2.2.2.1 - 1 - (dd + t)); omega) _ _ _ ⟨(show dd + (t + 1) ≤ D.2.2.2.2.2.1 - 1 from by omega), hP, hD, hS, lv_sub hl [0, 1, 2, 3, 4, 5, 6, 7, 8, 9] rfl⟩
        · have hs1 : ¬ D.2.2.2.2.2.2.1 = 0 := fun h9 => c_256 ((ho_l hst).mpr h9)
          refine lv_aload_n hx hb dL_doors_259 rfl (lv_at hl 2 rfl) ?_
          refine lv_iload hx hb dL_doors_260 (lv_at hl 0 rfl) ?_
          refine gHi (gs := [[(h, .inr (5, [.ref (Ad 0), .ref (At 0), .ref (As 0), .ref (Ac 0), .ref (L 6 0)]))], dyW cyI Ad D, hiW cyI cyO L V, [(ag, .inl (cyI, 6, .inl (g)))], [(ap, .inl (cyI, 20, .inl (p)))], [(aw, .inl (cyI, 20, .inl (w)))]]) (As := [.ref (h), .int (nI (dd))]) (rest := []) ⟨hx, hb, hml, hown, hts⟩ (t_L_removeDoorstep_IS l G cyI cyO h Ad At As Ac L D (by omega) dd (by omega) (dho_t hs1) htr) (vx_cwSW 2 hts gL_doors_L_removeDoorstep rfl rfl rfl (by decide +kernel) ⟨Nat.le_of_ble_eq_true rfl, Nat.le_of_ble_eq_true rfl⟩) hK hX hP hD hS hA [0, 1] rfl rfl (rfl : (2 : Nat) = 2) rfl hl.1 rfl (Nat.le_of_ble_eq_true rfl) dL_doors_262 ⟨Nat.le_of_ble_eq_true rfl, Nat.le_of_ble_eq_true rfl⟩ (fun H locs hP hD hS => ?_)
          have hP : va_P G vwCl (cat [[(h, .inr (5, [.ref (Ad 0), .ref (At 0), .ref (As 0), .ref (Ac 0), .ref (L 6 0)]))], dyW cyI Ad D, hiW cyI cyO L V, [(ag, .inl (cyI, 6, .inl (g)))], [(ap, .inl (cyI, 20, .inl (p)))], [(aw, .inl (cyI, 20, .inl (w)))]]) H := hP
          have hD : va_D A9 (cat [[(h, .inr (5, [.ref (Ad 0), .ref (At 0), .ref (As 0), .ref (Ac 0), .ref (L 6 0)]))], dyW cyI Ad D, hiW cyI cyO L V, [(ag, .inl (cyI, 6, .inl (g)))], [(ap, .inl (cyI, 20, .inl (p)))], [(aw, .inl (cyI, 20, .inl (w)))]]) := hD
          refine W.cs (cells' := 1) (slots' := 6) rfl rfl ?_
          refine lv_bipush (v := (-33 : Int32)) hx hb dL_doors_265 (by decide) ?_
          refine lv_icmp_ne (tgt := 274) hx hb dL_doors_267 (by decide) (fun c_267 => ?_) (fun c_267 => ?_)
          · exact absurd c_267 (by decide)
          · refine lv_iconst (v := (1 : Int32)) hx hb dL_doors_270 (by decide) ?_
            refine lv_goto (tgt := 275) hx hb dL_doors_271 (by decide) ?_
            refine W.widen (k := 4) (n := 24) (Nat.le_of_ble_eq_true rfl) (Nat.le_of_ble_eq_true rfl) ?_
            exact end_g (U := DS × HS × (Nat → Nat → Nat) × (Nat → Int32) × (Nat → Int32) × (Nat → Int32)) (ok := fun u9 => RA u9.1 M u9.2.2.2.1 u9.2.2.2.2.1 u9.2.2.2.2.2 q r ∧ u9.2.1.1 ≤ 6) (gu := fun u9 => [[(h, .inr (5, [.ref (Ad 0), .ref (At 0), .ref (As 0), .ref (Ac 0), .ref (u9.2.2.1 6 0)]))], dyW cyI Ad u9.1, hiW cyI cyO u9.2.2.1 u9.2.1, [(ag, .inl (cyI, 6, .inl (u9.2.2.2.1)))], [(ap, .inl (cyI, 20, .inl (u9.2.2.2.2.1)))], [(aw, .inl (cyI, 20, .inl (u9.2.2.2.2.2)))]]) ((D, V, L, g, p, w)) hx hb hr hlocks hK hP hD hS (⟨hA0, hV⟩) dL_doors_275
      · have c_192 : ¬ (7) ≤ (how) := fun h9 => c_192 ((nI_leI (a := 7) (b := how) (by omega) (by omega)).mpr h9)
        refine lv_iconst (v := (1 : Int32)) hx hb dL_doors_195 (by decide) ?_
        refine lv_iload_n hx hb dL_doors_196 rfl (lv_at hl 4 rfl) ?_
        refine lv_bipush (v := (6 : Int32)) hx hb dL_doors_197 (by decide) ?_
        refine lv_ishr hx hb dL_doors_199 ?_
        refine lv_bipush (v := (9 : Int32)) hx hb dL_doors_200 (by decide) ?_
        refine gSi (gs := [[(h, .inr (5, [.ref (Ad 0), .ref (At 0), .ref (As 0), .ref (Ac 0), .ref (L 6 0)]))], dyW cyI Ad D, hiW cyI cyO L V, [(ag, .inl (cyI, 6, .inl (g)))], [(ap, .inl (cyI, 20, .inl (p)))], [(aw, .inl (cyI, 20, .inl (w)))]]) (As := [.int (y >>> (((6 : Int32)) &&& 31)), .int ((9 : Int32))]) (rest := [.int ((1 : Int32))]) ⟨hx, hb, hml, hown, hts⟩ (c_L_low l G cyI cyO (y >>> (((6 : Int32)) &&& 31)) 9 (by omega) (by omega)) (va_cwS 2 hts gL_doors_L_low rfl rfl rfl (by decide +kernel) ⟨Nat.le_of_ble_eq_true rfl, Nat.le_of_ble_eq_true rfl⟩) hK hP hD hS hA [] rfl rfl (rfl : (0 : Nat) = 0) rfl hl.1 rfl (Nat.le_of_ble_eq_true rfl) dL_doors_202 ⟨Nat.le_of_ble_eq_true rfl, Nat.le_of_ble_eq_true rfl⟩ (fun H locs hP hD hS => ?_)
        have hP : va_P G vwCl (cat [[(h, .inr (5, [.ref (Ad 0), .ref (At 0), .ref (As 0), .ref (Ac 0), .ref (L 6 0)]))], dyW cyI Ad D, hiW cyI cyO L V, [(ag, .inl (cyI, 6, .inl (g)))], [(ap, .inl (cyI, 20, .inl (p)))], [(aw, .inl (cyI, 20, .inl (w)))]]) H := hP
        have hD : va_D A9 (cat [[(h, .inr (5, [.ref (Ad 0), .ref (At 0), .ref (As 0), .ref (Ac 0), .ref (L 6 0)]))], dyW cyI Ad D, hiW cyI cyO L V, [(ag, .inl (cyI, 6, .inl (g)))], [(ap, .inl (cyI, 20, .inl (p)))], [(aw, .inl (cyI, 20, .inl (w)))]]) := hD
        obtain ⟨v1, ev1⟩ : ∃ z, z = lowN (y >>> ((6 : Int32) &&& 31)) 9 := ⟨_, rfl⟩
        have hv1 : v1 < 9 := by rw [ev1]; exact lowN_lt _ (by decide)
        refine top_i (x' := nI (v1)) (congrArg nI ev1.symm) ?_
        refine lv_iadd hx hb dL_doors_205 ?_
        refine top_i (x' := nI (1 + v1)) (nI_add (1) (v1)) ?_
        refine lv_istore (lv' := [(8, .int (nI (1 + v1))), (7, .int (nI (dd))), (6, .int (nI (how))), (0, .ref (h)), (1, .int (x)), (2, .int (y)), (3, .ref (ag)), (4, .ref (ap)), (5, .ref (aw))]) hx hb dL_doors_206 hl (by decide) rfl (fun ls hl => ?_)
        refine lv_aload hx hb dL_doors_208 (lv_at hl 7 rfl) ?_
        refine lv_iload hx hb dL_doors_210 (lv_at hl 1 rfl) ?_
        refine r_ild (k := dd) (n := 20) (f := p) hx hb hK hP 81 0 rfl rfl (by omega) (by omega) rfl dL_doors_212 ?_
        refine lv_istore (lv' := [(9, .int (p dd)), (8, .int (nI (1 + v1))), (7, .int (nI (dd))), (6, .int (nI (how))), (0, .ref (h)), (1, .int (x)), (2, .int (y)), (3, .ref (ag)), (4, .ref (ap)), (5, .ref (aw))]) hx hb dL_doors_213 hl (by decide) rfl (fun ls hl => ?_)
        refine lv_aload hx hb dL_doors_215 (lv_at hl 8 rfl) ?_
        refine lv_iload hx hb dL_doors_217 (lv_at hl 2 rfl) ?_
        refine lv_iload hx hb dL_doors_219 (lv_at hl 1 rfl) ?_
        refine r_ist (k := dd) (n := 20) (f := p) hx hb hK hP hD hS 81 0 rfl rfl (by omega) (by omega) rfl dL_doors_221 (fun H locs hP hD hS => ?_)
        have hP : va_P G vwCl (cat [[(h, .inr (5, [.ref (Ad 0), .ref (At 0), .ref (As 0), .ref (Ac 0), .ref (L 6 0)]))], dyW cyI Ad D, hiW cyI cyO L V, [(ag, .inl (cyI, 6, .inl (g)))], [(ap, .inl (cyI, 20, .inl (upd p dd (nI (1 + v1)))))], [(aw, .inl (cyI, 20, .inl (w)))]]) H := hP
        have hD : va_D A9 (cat [[(h, .inr (5, [.ref (Ad 0), .ref (At 0), .ref (As 0), .ref (Ac 0), .ref (L 6 0)]))], dyW cyI Ad D, hiW cyI cyO L V, [(ag, .inl (cyI, 6, .inl (g)))], [(ap, .inl (cyI, 20, .inl (upd p dd (nI (1 + v1)))))], [(aw, .inl (cyI, 20, .inl (w)))]]) := hD
        refine lv_aload_n hx hb dL_doors_222 rfl (lv_at hl 4 rfl) ?_
        refine lv_iload hx hb dL_doors_223 (lv_at hl 2 rfl) ?_
        refine lv_iload hx hb dL_doors_225 (lv_at hl 1 rfl) ?_
        refine gHi (gs := [[(h, .inr (5, [.ref (Ad 0), .ref (At 0), .ref (As 0), .ref (Ac 0), .ref (L 6 0)]))], dyW cyI Ad D, hiW cyI cyO L V, [(ag, .inl (cyI, 6, .inl (g)))], [(ap, .inl (cyI, 20, .inl (upd p dd (nI (1 + v1)))))], [(aw, .inl (cyI, 20, .inl (w)))]]) (As := [.ref (h), .int (nI (dd)), .int (nI (1 + v1))]) (rest := []) ⟨hx, hb, hml, hown, hts⟩ (n_L_setPints l G cyI cyO h Ad At As Ac L D V (by omega) (by omega) dd (by omega) (1 + v1) (by omega) (by omega)) (vx_cwSW 3 hts gL_doors_L_setPints rfl rfl rfl (by decide +kernel) ⟨Nat.le_of_ble_eq_true rfl, Nat.le_of_ble_eq_true rfl⟩) hK hX hP hD hS hA [0, 1, 2] rfl rfl (rfl : (3 : Nat) = 3) rfl hl.1 rfl (Nat.le_of_ble_eq_true rfl) dL_doors_227 ⟨Nat.le_of_ble_eq_true rfl, Nat.le_of_ble_eq_true rfl⟩ (fun H locs hP hD hS => ?_)
        have hP : va_P G vwCl (cat [[(h, .inr (5, [.ref (Ad 0), .ref (At 0), .ref (As 0), .ref (Ac 0), .ref (L 6 0)]))], dyW cyI Ad (dPts D dd (nI (1 + v1))), hiW cyI cyO (svM L V) (svS V D), [(ag, .inl (cyI, 6, .inl (g)))], [(ap, .inl (cyI, 20, .inl (upd p dd (nI (1 + v1)))))], [(aw, .inl (cyI, 20, .inl (w)))]]) H := hP
        have hD : va_D A9 (cat [[(h, .inr (5, [.ref (Ad 0), .ref (At 0), .ref (As 0), .ref (Ac 0), .ref (L 6 0)]))], dyW cyI Ad (dPts D dd (nI (1 + v1))), hiW cyI cyO (svM L V) (svS V D), [(ag, .inl (cyI, 6, .inl (g)))], [(ap, .inl (cyI, 20, .inl (upd p dd (nI (1 + v1)))))], [(aw, .inl (cyI, 20, .inl (w)))]]) := hD
        refine W.cs (cells' := 1) (slots' := 6) rfl rfl ?_
        refine lv_iload hx hb dL_doors_230 (lv_at hl 0 rfl) ?_
        refine lv_icmp_ne (tgt := 251) hx hb dL_doors_232 (by decide) (fun c_232 => ?_) (fun c_232 => ?_)
        · exact absurd ((hPO dd (by omega)).1).symm c_232
        · refine lv_aload_n hx hb dL_doors_235 rfl (lv_at hl 4 rfl) ?_
          refine lv_iload hx hb dL_doors_236 (lv_at hl 2 rfl) ?_
          refine lv_iconst (v := (0 : Int32)) hx hb dL_doors_238 (by decide) ?_
          refine gHi (gs := [[(h, .inr (5, [.ref (Ad 0), .ref (At 0), .ref (As 0), .ref (Ac 0), .ref (L 6 0)]))], dyW cyI Ad (dPts D dd (nI (1 + v1))), hiW cyI cyO (svM L V) (svS V D), [(ag, .inl (cyI, 6, .inl (g)))], [(ap, .inl (cyI, 20, .inl (upd p dd (nI (1 + v1)))))], [(aw, .inl (cyI, 20, .inl (w)))]]) (As := [.ref (h), .int (nI (dd)), .int ((0 : Int32))]) (rest := []) ⟨hx, hb, hml, hown, hts⟩ (t_L_setPints_IA l G cyI cyO h Ad At As Ac L (dPts D dd (nI (1 + v1))) (hn) dd (show dd < D.2.2.2.2.2.1 by omega) ((0 : Int32)) (by decide) htr) (vx_cwSW 3 hts gL_doors_L_setPints rfl rfl rfl (by decide +kernel) ⟨Nat.le_of_ble_eq_true rfl, Nat.le_of_ble_eq_true rfl⟩) hK hX hP hD hS hA [0, 1] rfl rfl (rfl : (2 : Nat) = 2) rfl hl.1 rfl (Nat.le_of_ble_eq_true rfl) dL_doors_239 ⟨Nat.le_of_ble_eq_true rfl, Nat.le_of_ble_eq_true rfl⟩ (fun H locs hP hD hS => ?_)
          have hP : va_P G vwCl (cat [[(h, .inr (5, [.ref (Ad 0), .ref (At 0), .ref (As 0), .ref (Ac 0), .ref (L 6 0)]))], dyW cyI Ad (dPts D dd (nI (1 + v1))), hiW cyI cyO (svM L V) (svS V D), [(ag, .inl (cyI, 6, .inl (g)))], [(ap, .inl (cyI, 20, .inl (upd p dd (nI (1 + v1)))))], [(aw, .inl (cyI, 20, .inl (w)))]]) H := hP
          have hD : va_D A9 (cat [[(h, .inr (5, [.ref (Ad 0), .ref (At 0), .ref (As 0), .ref (Ac 0), .ref (L 6 0)]))], dyW cyI Ad (dPts D dd (nI (1 + v1))), hiW cyI cyO (svM L V) (svS V D), [(ag, .inl (cyI, 6, .inl (g)))], [(ap, .inl (cyI, 20, .inl (upd p dd (nI (1 + v1)))))], [(aw, .inl (cyI, 20, .inl (w)))]]) := hD
          refine W.cs (cells' := 2) (slots' := 12) rfl rfl ?_
          refine lv_bipush (v := (-32 : Int32)) hx hb dL_doors_242 (by decide) ?_
          refine lv_icmp_ne (tgt := 251) hx hb dL_doors_244 (by decide) (fun c_244 => ?_) (fun c_244 => ?_)
          · exact absurd c_244 (by decide)
          · refine lv_iconst (v := (1 : Int32)) hx hb dL_doors_247 (by decide) ?_
            refine lv_goto (tgt := 252) hx hb dL_doors_248 (by decide) ?_
            refine W.widen (k := 4) (n := 24) (Nat.le_of_ble_eq_true rfl) (Nat.le_of_ble_eq_true rfl) ?_
            exact end_g (U := DS × HS × (Nat → Nat → Nat) × (Nat → Int32) × (Nat → Int32) × (Nat → Int32)) (ok := fun u9 => RA u9.1 M u9.2.2.2.1 u9.2.2.2.2.1 u9.2.2.2.2.2 q r ∧ u9.2.1.1 ≤ 6) (gu := fun u9 => [[(h, .inr (5, [.ref (Ad 0), .ref (At 0), .ref (As 0), .ref (Ac 0), .ref (u9.2.2.1 6 0)]))], dyW cyI Ad u9.1, hiW cyI cyO u9.2.2.1 u9.2.1, [(ag, .inl (cyI, 6, .inl (u9.2.2.2.1)))], [(ap, .inl (cyI, 20, .inl (u9.2.2.2.2.1)))], [(aw, .inl (cyI, 20, .inl (u9.2.2.2.2.2)))]]) ((dPts D dd (nI (1 + v1)), svS V D, svM L V, g, upd p dd (nI (1 + v1)), w)) hx hb hr hlocks hK hP hD hS (⟨hA0.set (by omega) ⟨by omega, by omega⟩, svS_le hV⟩) dL_doors_252
    · have c_134 : (dd) = (D.2.2.2.2.2.1) := (nI_eq (a := dd) (b := D.2.2.2.2.2.1) (by omega) (by omega)).mp c_134
      refine lv_aload_n hx hb dL_doors_137 rfl (lv_at hl 2 rfl) ?_
      refine lv_iload hx hb dL_doors_138 (lv_at hl 0 rfl) ?_
      refine gHi (gs := [[(h, .inr (5, [.ref (Ad 0), .ref (At 0), .ref (As 0), .ref (Ac 0), .ref (L 6 0)]))], dyW cyI Ad D, hiW cyI cyO L V, [(ag, .inl (cyI, 6, .inl (g)))], [(ap, .inl (cyI, 20, .inl (p)))], [(aw, .inl (cyI, 20, .inl (w)))]]) (As := [.ref (h), .int (nI (dd))]) (rest := []) ⟨hx, hb, hml, hown, hts⟩ (t_L_removeDoorstep_IO l G cyI cyO h Ad At As Ac L D (by omega) (nI (dd)) (by rw [c_134]; exact dHas_out hn) htr) (vx_cwSW 2 hts gL_doors_L_removeDoorstep rfl rfl rfl (by decide +kernel) ⟨Nat.le_of_ble_eq_true rfl, Nat.le_of_ble_eq_true rfl⟩) hK hX hP hD hS hA [0, 1] rfl rfl (rfl : (2 : Nat) = 2) rfl hl.1 rfl (Nat.le_of_ble_eq_true rfl) dL_doors_140 ⟨Nat.le_of_ble_eq_true rfl, Nat.le_of_ble_eq_true rfl⟩ (fun H locs hP hD hS => ?_)
      have hP : va_P G vwCl (cat [[(h, .inr (5, [.ref (Ad 0), .ref (At 0), .ref (As 0), .ref (Ac 0), .ref (L 6 0)]))], dyW cyI Ad D, hiW cyI cyO L V, [(ag, .inl (cyI, 6, .inl (g)))], [(ap, .inl (cyI, 20, .inl (p)))], [(aw, .inl (cyI, 20, .inl (w)))]]) H := hP
      have hD : va_D A9 (cat [[(h, .inr (5, [.ref (Ad 0), .ref (At 0), .ref (As 0), .ref (Ac 0), .ref (L 6 0)]))], dyW cyI Ad D, hiW cyI cyO L V, [(ag, .inl (cyI, 6, .inl (g)))], [(ap, .inl (cyI, 20, .inl (p)))], [(aw, .inl (cyI, 20, .inl (w)))]]) := hD
      refine W.cs (cells' := 1) (slots' := 6) rfl rfl ?_
      refine lv_bipush (v := (-31 : Int32)) hx hb dL_doors_143 (by decide) ?_
      refine lv_icmp_ne (tgt := 186) hx hb dL_doors_145 (by decide) (fun c_145 => ?_) (fun c_145 => ?_)
      · exact absurd c_145 (by decide)
      · refine lv_aload_n hx hb dL_doors_148 rfl (lv_at hl 2 rfl) ?_
        refine lv_iload hx hb dL_doors_149 (lv_at hl 0 rfl) ?_
        refine lv_bipush (v := (10 : Int32)) hx hb dL_doors_151 (by decide) ?_
        refine gHi (gs := [[(h, .inr (5, [.ref (Ad 0), .ref (At 0), .ref (As 0), .ref (Ac 0), .ref (L 6 0)]))], dyW cyI Ad D, hiW cyI cyO L V, [(ag, .inl (cyI, 6, .inl (g)))], [(ap, .inl (cyI, 20, .inl (p)))], [(aw, .inl (cyI, 20, .inl (w)))]]) (As := [.ref (h), .int (nI (dd)), .int ((10 : Int32))]) (rest := []) ⟨hx, hb, hml, hown, hts⟩ (t_L_setPints_IO l G cyI cyO h Ad At As Ac L D (by omega) (nI (dd)) (by rw [c_134]; exact dHas_out hn) ((10 : Int32)) htr) (vx_cwSW 3 hts gL_doors_L_setPints rfl rfl rfl (by decide +kernel) ⟨Nat.le_of_ble_eq_true rfl, Nat.le_of_ble_eq_true rfl⟩) hK hX hP hD hS hA [0, 1] rfl rfl (rfl : (2 : Nat) = 2) rfl hl.1 rfl (Nat.le_of_ble_eq_true rfl) dL_doors_153 ⟨Nat.le_of_ble_eq_true rfl, Nat.le_of_ble_eq_true rfl⟩ (fun H locs hP hD hS => ?_)
        have hP : va_P G vwCl (cat [[(h, .inr (5, [.ref (Ad 0), .ref (At 0), .ref (As 0), .ref (Ac 0), .ref (L 6 0)]))], dyW cyI Ad D, hiW cyI cyO L V, [(ag, .inl (cyI, 6, .inl (g)))], [(ap, .inl (cyI, 20, .inl (p)))], [(aw, .inl (cyI, 20, .inl (w)))]]) H := hP
        have hD : va_D A9 (cat [[(h, .inr (5, [.ref (Ad 0), .ref (At 0), .ref (As 0), .ref (Ac 0), .ref (L 6 0)]))], dyW cyI Ad D, hiW cyI cyO L V, [(ag, .inl (cyI, 6, .inl (g)))], [(ap, .inl (cyI, 20, .inl (p)))], [(aw, .inl (cyI, 20, .inl (w)))]]) := hD
        refine W.cs (cells' := 2) (slots' := 12) rfl rfl ?_
        refine lv_bipush (v := (-31 : Int32)) hx hb dL_doors_156 (by decide) ?_
        refine lv_icmp_ne (tgt := 186) hx hb dL_doors_158 (by decide) (fun c_158 => ?_) (fun c_158 => ?_)
        · exact absurd c_158 (by decide)
        · refine lv_aload_n hx hb dL_doors_161 rfl (lv_at hl 2 rfl) ?_
          refine lv_iload hx hb dL_doors_162 (lv_at hl 0 rfl) ?_
          refine gHi (gs := [[(h, .inr (5, [.ref (Ad 0), .ref (At 0), .ref (As 0), .ref (Ac 0), .ref (L 6 0)]))], dyW cyI Ad D, hiW cyI cyO L V, [(ag, .inl (cyI, 6, .inl (g)))], [(ap, .inl (cyI, 20, .inl (p)))], [(aw, .inl (cyI, 20, .inl (w)))]]) (As := [.ref (h), .int (nI (dd))]) (rest := []) ⟨hx, hb, hml, hown, hts⟩ (t_L_owner_IO l G cyI cyO h Ad At As Ac L D (by omega) (nI (dd)) (by rw [c_134]; exact dHas_out hn) htr) (vx_cwSW 2 hts gL_doors_L_owner rfl rfl rfl (by decide +kernel) ⟨Nat.le_of_ble_eq_true rfl, Nat.le_of_ble_eq_true rfl⟩) hK hX hP hD hS hA [0, 1] rfl rfl (rfl : (2 : Nat) = 2) rfl hl.1 rfl (Nat.le_of_ble_eq_true rfl) dL_doors_164 ⟨Nat.le_of_ble_eq_true rfl, Nat.le_of_ble_eq_true rfl⟩ (fun H locs hP hD hS => ?_)
          have hP : va_P G vwCl (cat [[(h, .inr (5, [.ref (Ad 0), .ref (At 0), .ref (As 0), .ref (Ac 0), .ref (L 6 0)]))], dyW cyI Ad D, hiW cyI cyO L V, [(ag, .inl (cyI, 6, .inl (g)))], [(ap, .inl (cyI, 20, .inl (p)))], [(aw, .inl (cyI, 20, .inl (w)))]]) H := hP
          have hD : va_D A9 (cat [[(h, .inr (5, [.ref (Ad 0), .ref (At 0), .ref (As 0), .ref (Ac 0), .ref (L 6 0)]))], dyW cyI Ad D, hiW cyI cyO L V, [(ag, .inl (cyI, 6, .inl (g)))], [(ap, .inl (cyI, 20, .inl (p)))], [(aw, .inl (cyI, 20, .inl (w)))]]) := hD
          refine W.cs (cells' := 3) (slots' := 18) rfl rfl ?_
          refine lv_bipush (v := (-31 : Int32)) hx hb dL_doors_167 (by decide) ?_
          refine lv_icmp_ne (tgt := 186) hx hb dL_doors_169 (by decide) (fun c_169 => ?_) (fun c_169 => ?_)
          · exact absurd c_169 (by decide)
          · refine lv_aload_n hx hb dL_doors_172 rfl (lv_at hl 2 rfl) ?_
            refine lv_iconst (v := (-1 : Int32)) hx hb dL_doors_173 (by decide) ?_
            refine gHi (gs := [[(h, .inr (5, [.ref (Ad 0), .ref (At 0), .ref (As 0), .ref (Ac 0), .ref (L 6 0)]))], dyW cyI Ad D, hiW cyI cyO L V, [(ag, .inl (cyI, 6, .inl (g)))], [(ap, .inl (cyI, 20, .inl (p)))], [(aw, .inl (cyI, 20, .inl (w)))]]) (As := [.ref (h), .int ((-1 : Int32))]) (rest := []) ⟨hx, hb, hml, hown, hts⟩ (t_L_reason_IO l G cyI cyO h Ad At As Ac L D (by omega) ((-1 : Int32)) (dHas_m1) htr) (vx_cwSW 2 hts gL_doors_L_reason rfl rfl rfl (by decide +kernel) ⟨Nat.le_of_ble_eq_true rfl, Nat.le_of_ble_eq_true rfl⟩) hK hX hP hD hS hA [0, 1] rfl rfl (rfl : (2 : Nat) = 2) rfl hl.1 rfl (Nat.le_of_ble_eq_true rfl) dL_doors_174 ⟨Nat.le_of_ble_eq_true rfl, Nat.le_of_ble_eq_true rfl⟩ (fun H locs hP hD hS => ?_)
            have hP : va_P G vwCl (cat [[(h, .inr (5, [.ref (Ad 0), .ref (At 0), .ref (As 0), .ref (Ac 0), .ref (L 6 0)]))], dyW cyI Ad D, hiW cyI cyO L V, [(ag, .inl (cyI, 6, .inl (g)))], [(ap, .inl (cyI, 20, .inl (p)))], [(aw, .inl (cyI, 20, .inl (w)))]]) H := hP
            have hD : va_D A9 (cat [[(h, .inr (5, [.ref (Ad 0), .ref (At 0), .ref (As 0), .ref (Ac 0), .ref (L 6 0)]))], dyW cyI Ad D, hiW cyI cyO L V, [(ag, .inl (cyI, 6, .inl (g)))], [(ap, .inl (cyI, 20, .inl (p)))], [(aw, .inl (cyI, 20, .inl (w)))]]) := hD
            refine W.cs (cells' := 4) (slots' := 24) rfl rfl ?_
            refine lv_bipush (v := (-31 : Int32)) hx hb dL_doors_177 (by decide) ?_
            refine lv_icmp_ne (tgt := 186) hx hb dL_doors_179 (by decide) (fun c_179 => ?_) (fun c_179 => ?_)
            · exact absurd c_179 (by decide)
            · refine lv_iconst (v := (1 : Int32)) hx hb dL_doors_182 (by decide) ?_
              refine lv_goto (tgt := 187) hx hb dL_doors_183 (by decide) ?_
              refine W.widen (k := 4) (n := 24) (Nat.le_of_ble_eq_true rfl) (Nat.le_of_ble_eq_true rfl) ?_
              exact end_g (U := DS × HS × (Nat → Nat → Nat) × (Nat → Int32) × (Nat → Int32) × (Nat → Int32)) (ok := fun u9 => RA u9.1 M u9.2.2.2.1 u9.2.2.2.2.1 u9.2.2.2.2.2 q r ∧ u9.2.1.1 ≤ 6) (gu := fun u9 => [[(h, .inr (5, [.ref (Ad 0), .ref (At 0), .ref (As 0), .ref (Ac 0), .ref (u9.2.2.1 6 0)]))], dyW cyI Ad u9.1, hiW cyI cyO u9.2.2.1 u9.2.1, [(ag, .inl (cyI, 6, .inl (u9.2.2.2.1)))], [(ap, .inl (cyI, 20, .inl (u9.2.2.2.2.1)))], [(aw, .inl (cyI, 20, .inl (u9.2.2.2.2.2)))]]) ((D, V, L, g, p, w)) hx hb hr hlocks hK hP hD hS (⟨hA0, hV⟩) dL_doors_187
  · have c_11 : ¬ (5) ≤ (how) := fun h9 => c_11 ((nI_leI (a := 5) (b := how) (by omega) (by omega)).mpr h9)
    refine lv_iconst (v := (1 : Int32)) hx hb dL_doors_14 (by decide) ?_
    refine lv_iload_n hx hb dL_doors_15 rfl (lv_at hl 3 rfl) ?_
    refine lv_bipush (v := (9 : Int32)) hx hb dL_doors_16 (by decide) ?_
    refine gSi (gs := [[(h, .inr (5, [.ref (Ad 0), .ref (At 0), .ref (As 0), .ref (Ac 0), .ref (L 6 0)]))], dyW cyI Ad D, hiW cyI cyO L V, [(ag, .inl (cyI, 6, .inl (g)))], [(ap, .inl (cyI, 20, .inl (p)))], [(aw, .inl (cyI, 20, .inl (w)))]]) (As := [.int (y), .int ((9 : Int32))]) (rest := [.int ((1 : Int32))]) ⟨hx, hb, hml, hown, hts⟩ (c_L_low l G cyI cyO y 9 (by omega) (by omega)) (va_cwS 2 hts gL_doors_L_low rfl rfl rfl (by decide +kernel) ⟨Nat.le_of_ble_eq_true rfl, Nat.le_of_ble_eq_true rfl⟩) hK hP hD hS hA [] rfl rfl (rfl : (0 : Nat) = 0) rfl hl.1 rfl (Nat.le_of_ble_eq_true rfl) dL_doors_18 ⟨Nat.le_of_ble_eq_true rfl, Nat.le_of_ble_eq_true rfl⟩ (fun H locs hP hD hS => ?_)
    have hP : va_P G vwCl (cat [[(h, .inr (5, [.ref (Ad 0), .ref (At 0), .ref (As 0), .ref (Ac 0), .ref (L 6 0)]))], dyW cyI Ad D, hiW cyI cyO L V, [(ag, .inl (cyI, 6, .inl (g)))], [(ap, .inl (cyI, 20, .inl (p)))], [(aw, .inl (cyI, 20, .inl (w)))]]) H := hP
    have hD : va_D A9 (cat [[(h, .inr (5, [.ref (Ad 0), .ref (At 0), .ref (As 0), .ref (Ac 0), .ref (L 6 0)]))], dyW cyI Ad D, hiW cyI cyO L V, [(ag, .inl (cyI, 6, .inl (g)))], [(ap, .inl (cyI, 20, .inl (p)))], [(aw, .inl (cyI, 20, .inl (w)))]]) := hD
    obtain ⟨v0, ev0⟩ : ∃ z, z = lowN y 9 := ⟨_, rfl⟩
    have hv0 : v0 < 9 := by rw [ev0]; exact lowN_lt _ (by decide)
    refine top_i (x' := nI (v0)) (congrArg nI ev0.symm) ?_
    refine lv_iadd hx hb dL_doors_21 ?_
    refine top_i (x' := nI (1 + v0)) (nI_add (1) (v0)) ?_
    refine lv_istore (lv' := [(7, .int (nI (1 + v0))), (6, .int (nI (how))), (0, .ref (h)), (1, .int (x)), (2, .int (y)), (3, .ref (ag)), (4, .ref (ap)), (5, .ref (aw))]) hx hb dL_doors_22 hl (by decide) rfl (fun ls hl => ?_)
    refine lv_aload_n hx hb dL_doors_24 rfl (lv_at hl 5 rfl) ?_
    refine lv_iconst (v := (1 : Int32)) hx hb dL_doors_25 (by decide) ?_
    refine r_ild (k := 1) (n := 6) (f := g) hx hb hK hP 80 0 rfl rfl (by omega) (by omega) rfl dL_doors_26 ?_
    refine top_i (x' := D.2.2.2.2.2.2.1) (hg1) ?_
    refine lv_if_gt (tgt := 38) hx hb dL_doors_27 (by decide) (fun c_27 => ?_) (fun c_27 => ?_)
    · have hs1 := ho_t hst c_27
      have hm9 : (!dHO D && decide (D.2.2.2.2.2.1 < 20)) = false := by rw [dho_t hs1]; rfl
      refine lv_aload_n hx hb dL_doors_38 rfl (lv_at hl 2 rfl) ?_
      refine lv_iload hx hb dL_doors_39 (lv_at hl 0 rfl) ?_
      refine gHi (gs := [[(h, .inr (5, [.ref (Ad 0), .ref (At 0), .ref (As 0), .ref (Ac 0), .ref (L 6 0)]))], dyW cyI Ad D, hiW cyI cyO L V, [(ag, .inl (cyI, 6, .inl (g)))], [(ap, .inl (cyI, 20, .inl (p)))], [(aw, .inl (cyI, 20, .inl (w)))]]) (As := [.ref (h), .int (nI (1 + v0))]) (rest := []) ⟨hx, hb, hml, hown, hts⟩ (t_L_addDoorstep_IS l G cyI cyO h Ad At As Ac L D (by omega) (1 + v0) (by omega) (by omega) (hm9) htr) (vx_cwSW 2 hts gL_doors_L_addDoorstep rfl rfl rfl (by decide +kernel) ⟨Nat.le_of_ble_eq_true rfl, Nat.le_of_ble_eq_true rfl⟩) hK hX hP hD hS hA [0, 1] rfl rfl (rfl : (2 : Nat) = 2) rfl hl.1 rfl (Nat.le_of_ble_eq_true rfl) dL_doors_41 ⟨Nat.le_of_ble_eq_true rfl, Nat.le_of_ble_eq_true rfl⟩ (fun H locs hP hD hS => ?_)
      have hP : va_P G vwCl (cat [[(h, .inr (5, [.ref (Ad 0), .ref (At 0), .ref (As 0), .ref (Ac 0), .ref (L 6 0)]))], dyW cyI Ad D, hiW cyI cyO L V, [(ag, .inl (cyI, 6, .inl (g)))], [(ap, .inl (cyI, 20, .inl (p)))], [(aw, .inl (cyI, 20, .inl (w)))]]) H := hP
      have hD : va_D A9 (cat [[(h, .inr (5, [.ref (Ad 0), .ref (At 0), .ref (As 0), .ref (Ac 0), .ref (L 6 0)]))], dyW cyI Ad D, hiW cyI cyO L V, [(ag, .inl (cyI, 6, .inl (g)))], [(ap, .inl (cyI, 20, .inl (p)))], [(aw, .inl (cyI, 20, .inl (w)))]]) := hD
      refine W.cs (cells' := 1) (slots' := 6) rfl rfl ?_
      refine lv_bipush (v := (-33 : Int32)) hx hb dL_doors_44 (by decide) ?_
      refine lv_icmp_ne (tgt := 74) hx hb dL_doors_46 (by decide) (fun c_46 => ?_) (fun c_46 => ?_)
      · exact absurd c_46 (by decide)
      · refine lv_aload_n hx hb dL_doors_49 rfl (lv_at hl 2 rfl) ?_
        refine lv_iconst (v := (0 : Int32)) hx hb dL_doors_50 (by decide) ?_
        refine gHi (gs := [[(h, .inr (5, [.ref (Ad 0), .ref (At 0), .ref (As 0), .ref (Ac 0), .ref (L 6 0)]))], dyW cyI Ad D, hiW cyI cyO L V, [(ag, .inl (cyI, 6, .inl (g)))], [(ap, .inl (cyI, 20, .inl (p)))], [(aw, .inl (cyI, 20, .inl (w)))]]) (As := [.ref (h), .int ((0 : Int32))]) (rest := []) ⟨hx, hb, hml, hown, hts⟩ (t_L_addDoorstep_IA l G cyI cyO h Ad At As Ac L D ((0 : Int32)) (by decide) htr) (vx_cwSW 2 hts gL_doors_L_addDoorstep rfl rfl rfl (by decide +kernel) ⟨Nat.le_of_ble_eq_true rfl, Nat.le_of_ble_eq_true rfl⟩) hK hX hP hD hS hA [0, 1] rfl rfl (rfl : (2 : Nat) = 2) rfl hl.1 rfl (Nat.le_of_ble_eq_true rfl) dL_doors_51 ⟨Nat.le_of_ble_eq_true rfl, Nat.le_of_ble_eq_true rfl⟩ (fun H locs hP hD hS => ?_)
        have hP : va_P G vwCl (cat [[(h, .inr (5, [.ref (Ad 0), .ref (At 0), .ref (As 0), .ref (Ac 0), .ref (L 6 0)]))], dyW cyI Ad D, hiW cyI cyO L V, [(ag, .inl (cyI, 6, .inl (g)))], [(ap, .inl (cyI, 20, .inl (p)))], [(aw, .inl (cyI, 20, .inl (w)))]]) H := hP
        have hD : va_D A9 (cat [[(h, .inr (5, [.ref (Ad 0), .ref (At 0), .ref (As 0), .ref (Ac 0), .ref (L 6 0)]))], dyW cyI Ad D, hiW cyI cyO L V, [(ag, .inl (cyI, 6, .inl (g)))], [(ap, .inl (cyI, 20, .inl (p)))], [(aw, .inl (cyI, 20, .inl (w)))]]) := hD
        refine W.cs (cells' := 2) (slots' := 12) rfl rfl ?_
        refine lv_bipush (v := (-32 : Int32)) hx hb dL_doors_54 (by decide) ?_
        refine lv_icmp_ne (tgt := 74) hx hb dL_doors_56 (by decide) (fun c_56 => ?_) (fun c_56 => ?_)
        · exact absurd c_56 (by decide)
        · refine lv_aload_n hx hb dL_doors_59 rfl (lv_at hl 2 rfl) ?_
          refine lv_bipush (v := (10 : Int32)) hx hb dL_doors_60 (by decide) ?_
          refine gHi (gs := [[(h, .inr (5, [.ref (Ad 0), .ref (At 0), .ref (As 0), .ref (Ac 0), .ref (L 6 0)]))], dyW cyI Ad D, hiW cyI cyO L V, [(ag, .inl (cyI, 6, .inl (g)))], [(ap, .inl (cyI, 20, .inl (p)))], [(aw, .inl (cyI, 20, .inl (w)))]]) (As := [.ref (h), .int ((10 : Int32))]) (rest := []) ⟨hx, hb, hml, hown, hts⟩ (t_L_addDoorstep_IA l G cyI cyO h Ad At As Ac L D ((10 : Int32)) (by decide) htr) (vx_cwSW 2 hts gL_doors_L_addDoorstep rfl rfl rfl (by decide +kernel) ⟨Nat.le_of_ble_eq_true rfl, Nat.le_of_ble_eq_true rfl⟩) hK hX hP hD hS hA [0, 1] rfl rfl (rfl : (2 : Nat) = 2) rfl hl.1 rfl (Nat.le_of_ble_eq_true rfl) dL_doors_62 ⟨Nat.le_of_ble_eq_true rfl, Nat.le_of_ble_eq_true rfl⟩ (fun H locs hP hD hS => ?_)
          have hP : va_P G vwCl (cat [[(h, .inr (5, [.ref (Ad 0), .ref (At 0), .ref (As 0), .ref (Ac 0), .ref (L 6 0)]))], dyW cyI Ad D, hiW cyI cyO L V, [(ag, .inl (cyI, 6, .inl (g)))], [(ap, .inl (cyI, 20, .inl (p)))], [(aw, .inl (cyI, 20, .inl (w)))]]) H := hP
          have hD : va_D A9 (cat [[(h, .inr (5, [.ref (Ad 0), .ref (At 0), .ref (As 0), .ref (Ac 0), .ref (L 6 0)]))], dyW cyI Ad D, hiW cyI cyO L V, [(ag, .inl (cyI, 6, .inl (g)))], [(ap, .inl (cyI, 20, .inl (p)))], [(aw, .inl (cyI, 20, .inl (w)))]]) := hD
          refine W.cs (cells' := 3) (slots' := 18) rfl rfl ?_
          refine lv_bipush (v := (-32 : Int32)) hx hb dL_doors_65 (by decide) ?_
          refine lv_icmp_ne (tgt := 74) hx hb dL_doors_67 (by decide) (fun c_67 => ?_) (fun c_67 => ?_)
          · exact absurd c_67 (by decide)
          · refine lv_iconst (v := (1 : Int32)) hx hb dL_doors_70 (by decide) ?_
            refine lv_goto (tgt := 75) hx hb dL_doors_71 (by decide) ?_
            refine W.widen (k := 4) (n := 24) (Nat.le_of_ble_eq_true rfl) (Nat.le_of_ble_eq_true rfl) ?_
            exact end_g (U := DS × HS × (Nat → Nat → Nat) × (Nat → Int32) × (Nat → Int32) × (Nat → Int32)) (ok := fun u9 => RA u9.1 M u9.2.2.2.1 u9.2.2.2.2.1 u9.2.2.2.2.2 q r ∧ u9.2.1.1 ≤ 6) (gu := fun u9 => [[(h, .inr (5, [.ref (Ad 0), .ref (At 0), .ref (As 0), .ref (Ac 0), .ref (u9.2.2.1 6 0)]))], dyW cyI Ad u9.1, hiW cyI cyO u9.2.2.1 u9.2.1, [(ag, .inl (cyI, 6, .inl (u9.2.2.2.1)))], [(ap, .inl (cyI, 20, .inl (u9.2.2.2.2.1)))], [(aw, .inl (cyI, 20, .inl (u9.2.2.2.2.2)))]]) ((D, V, L, g, p, w)) hx hb hr hlocks hK hP hD hS (⟨hA0, hV⟩) dL_doors_75
    · have hst0 := ho_f hst c_27
      refine lv_aload_n hx hb dL_doors_30 rfl (lv_at hl 5 rfl) ?_
      refine lv_iconst (v := (0 : Int32)) hx hb dL_doors_31 (by decide) ?_
      refine r_ild (k := 0) (n := 6) (f := g) hx hb hK hP 80 0 rfl rfl (by omega) (by omega) rfl dL_doors_32 ?_
      refine top_i (x' := nI (D.2.2.2.2.2.1)) (hg0) ?_
      refine lv_bipush (v := (20 : Int32)) hx hb dL_doors_33 (by decide) ?_
      refine lv_icmp_ne (tgt := 76) hx hb dL_doors_35 (by decide) (fun c_35 => ?_) (fun c_35 => ?_)
      · have c_35 : ¬ (D.2.2.2.2.2.1) = (20) := fun h9 => c_35 ((nI_eq (a := D.2.2.2.2.2.1) (b := 20) (by omega) (by omega)).mpr h9)
        refine lv_aload hx hb dL_doors_76 (lv_at hl 6 rfl) ?_
        refine lv_aload_n hx hb dL_doors_78 rfl (lv_at hl 5 rfl) ?_
        refine lv_iconst (v := (0 : Int32)) hx hb dL_doors_79 (by decide) ?_
        refine r_ild (k := 0) (n := 6) (f := g) hx hb hK hP 80 0 rfl rfl (by omega) (by omega) rfl dL_doors_80 ?_
        refine top_i (x' := nI (D.2.2.2.2.2.1)) (hg0) ?_
        refine lv_iload hx hb dL_doors_81 (lv_at hl 0 rfl) ?_
        refine r_ist (k := D.2.2.2.2.2.1) (n := 20) (f := p) hx hb hK hP hD hS 81 0 rfl rfl (by omega) (by omega) rfl dL_doors_83 (fun H locs hP hD hS => ?_)
        have hP : va_P G vwCl (cat [[(h, .inr (5, [.ref (Ad 0), .ref (At 0), .ref (As 0), .ref (Ac 0), .ref (L 6 0)]))], dyW cyI Ad D, hiW cyI cyO L V, [(ag, .inl (cyI, 6, .inl (g)))], [(ap, .inl (cyI, 20, .inl (upd p D.2.2.2.2.2.1 (nI (1 + v0)))))], [(aw, .inl (cyI, 20, .inl (w)))]]) H := hP
        have hD : va_D A9 (cat [[(h, .inr (5, [.ref (Ad 0), .ref (At 0), .ref (As 0), .ref (Ac 0), .ref (L 6 0)]))], dyW cyI Ad D, hiW cyI cyO L V, [(ag, .inl (cyI, 6, .inl (g)))], [(ap, .inl (cyI, 20, .inl (upd p D.2.2.2.2.2.1 (nI (1 + v0)))))], [(aw, .inl (cyI, 20, .inl (w)))]]) := hD
        refine lv_aload hx hb dL_doors_84 (lv_at hl 7 rfl) ?_
        refine lv_aload_n hx hb dL_doors_86 rfl (lv_at hl 5 rfl) ?_
        refine lv_iconst (v := (0 : Int32)) hx hb dL_doors_87 (by decide) ?_
        refine r_ild (k := 0) (n := 6) (f := g) hx hb hK hP 80 0 rfl rfl (by omega) (by omega) rfl dL_doors_88 ?_
        refine top_i (x' := nI (D.2.2.2.2.2.1)) (hg0) ?_
        refine lv_iconst (v := (-1 : Int32)) hx hb dL_doors_89 (by decide) ?_
        refine r_ist (k := D.2.2.2.2.2.1) (n := 20) (f := w) hx hb hK hP hD hS 82 0 rfl rfl (by omega) (by omega) rfl dL_doors_90 (fun H locs hP hD hS => ?_)
        have hP : va_P G vwCl (cat [[(h, .inr (5, [.ref (Ad 0), .ref (At 0), .ref (As 0), .ref (Ac 0), .ref (L 6 0)]))], dyW cyI Ad D, hiW cyI cyO L V, [(ag, .inl (cyI, 6, .inl (g)))], [(ap, .inl (cyI, 20, .inl (upd p D.2.2.2.2.2.1 (nI (1 + v0)))))], [(aw, .inl (cyI, 20, .inl (upd w D.2.2.2.2.2.1 ((-1 : Int32)))))]]) H := hP
        have hD : va_D A9 (cat [[(h, .inr (5, [.ref (Ad 0), .ref (At 0), .ref (As 0), .ref (Ac 0), .ref (L 6 0)]))], dyW cyI Ad D, hiW cyI cyO L V, [(ag, .inl (cyI, 6, .inl (g)))], [(ap, .inl (cyI, 20, .inl (upd p D.2.2.2.2.2.1 (nI (1 + v0)))))], [(aw, .inl (cyI, 20, .inl (upd w D.2.2.2.2.2.1 ((-1 : Int32)))))]]) := hD
        refine lv_aload_n hx hb dL_doors_91 rfl (lv_at hl 5 rfl) ?_
        refine lv_iconst (v := (0 : Int32)) hx hb dL_doors_92 (by decide) ?_
        refine lv_dup2_11 hx hb dL_doors_93 rfl rfl ?_
        refine r_ild (k := 0) (n := 6) (f := g) hx hb hK hP 80 0 rfl rfl (by omega) (by omega) rfl dL_doors_94 ?_
        refine top_i (x' := nI (D.2.2.2.2.2.1)) (hg0) ?_
        refine lv_iconst (v := (1 : Int32)) hx hb dL_doors_95 (by decide) ?_
        refine lv_iadd hx hb dL_doors_96 ?_
        refine top_i (x' := nI (D.2.2.2.2.2.1 + 1)) (nI_add (D.2.2.2.2.2.1) (1)) ?_
        refine r_ist (k := 0) (n := 6) (f := g) hx hb hK hP hD hS 80 0 rfl rfl (by omega) (by omega) rfl dL_doors_97 (fun H locs hP hD hS => ?_)
        have hP : va_P G vwCl (cat [[(h, .inr (5, [.ref (Ad 0), .ref (At 0), .ref (As 0), .ref (Ac 0), .ref (L 6 0)]))], dyW cyI Ad D, hiW cyI cyO L V, [(ag, .inl (cyI, 6, .inl (upd g 0 (nI (D.2.2.2.2.2.1 + 1)))))], [(ap, .inl (cyI, 20, .inl (upd p D.2.2.2.2.2.1 (nI (1 + v0)))))], [(aw, .inl (cyI, 20, .inl (upd w D.2.2.2.2.2.1 ((-1 : Int32)))))]]) H := hP
        have hD : va_D A9 (cat [[(h, .inr (5, [.ref (Ad 0), .ref (At 0), .ref (As 0), .ref (Ac 0), .ref (L 6 0)]))], dyW cyI Ad D, hiW cyI cyO L V, [(ag, .inl (cyI, 6, .inl (upd g 0 (nI (D.2.2.2.2.2.1 + 1)))))], [(ap, .inl (cyI, 20, .inl (upd p D.2.2.2.2.2.1 (nI (1 + v0)))))], [(aw, .inl (cyI, 20, .inl (upd w D.2.2.2.2.2.1 ((-1 : Int32)))))]]) := hD
        refine lv_aload_n hx hb dL_doors_98 rfl (lv_at hl 2 rfl) ?_
        refine lv_iload hx hb dL_doors_99 (lv_at hl 0 rfl) ?_
        refine gHi (gs := [[(h, .inr (5, [.ref (Ad 0), .ref (At 0), .ref (As 0), .ref (Ac 0), .ref (L 6 0)]))], dyW cyI Ad D, hiW cyI cyO L V, [(ag, .inl (cyI, 6, .inl (upd g 0 (nI (D.2.2.2.2.2.1 + 1)))))], [(ap, .inl (cyI, 20, .inl (upd p D.2.2.2.2.2.1 (nI (1 + v0)))))], [(aw, .inl (cyI, 20, .inl (upd w D.2.2.2.2.2.1 ((-1 : Int32)))))]]) (As := [.ref (h), .int (nI (1 + v0))]) (rest := []) ⟨hx, hb, hml, hown, hts⟩ (n_L_addDoorstep l G cyI cyO h Ad At As Ac L D V (by omega) (by omega) (1 + v0) (by omega) (by omega) (by rw [dho_f hst0, decide_eq_true (show D.2.2.2.2.2.1 < 20 by omega)]; rfl)) (vx_cwSW 2 hts gL_doors_L_addDoorstep rfl rfl rfl (by decide +kernel) ⟨Nat.le_of_ble_eq_true rfl, Nat.le_of_ble_eq_true rfl⟩) hK hX hP hD hS hA [0, 1, 2] rfl rfl (rfl : (3 : Nat) = 3) rfl hl.1 rfl (Nat.le_of_ble_eq_true rfl) dL_doors_101 ⟨Nat.le_of_ble_eq_true rfl, Nat.le_of_ble_eq_true rfl⟩ (fun H locs hP hD hS => ?_)
        have hP : va_P G vwCl (cat [[(h, .inr (5, [.ref (Ad 0), .ref (At 0), .ref (As 0), .ref (Ac 0), .ref (L 6 0)]))], dyW cyI Ad (dAdd D (nI (1 + v0))), hiW cyI cyO (svM L V) (svS V D), [(ag, .inl (cyI, 6, .inl (upd g 0 (nI (D.2.2.2.2.2.1 + 1)))))], [(ap, .inl (cyI, 20, .inl (upd p D.2.2.2.2.2.1 (nI (1 + v0)))))], [(aw, .inl (cyI, 20, .inl (upd w D.2.2.2.2.2.1 ((-1 : Int32)))))]]) H := hP
        have hD : va_D A9 (cat [[(h, .inr (5, [.ref (Ad 0), .ref (At 0), .ref (As 0), .ref (Ac 0), .ref (L 6 0)]))], dyW cyI Ad (dAdd D (nI (1 + v0))), hiW cyI cyO (svM L V) (svS V D), [(ag, .inl (cyI, 6, .inl (upd g 0 (nI (D.2.2.2.2.2.1 + 1)))))], [(ap, .inl (cyI, 20, .inl (upd p D.2.2.2.2.2.1 (nI (1 + v0)))))], [(aw, .inl (cyI, 20, .inl (upd w D.2.2.2.2.2.1 ((-1 : Int32)))))]]) := hD
        refine W.cs (cells' := 1) (slots' := 6) rfl rfl ?_
        refine lv_aload_n hx hb dL_doors_104 rfl (lv_at hl 5 rfl) ?_
        refine lv_iconst (v := (0 : Int32)) hx hb dL_doors_105 (by decide) ?_
        refine r_ild (k := 0) (n := 6) (f := upd g 0 (nI (D.2.2.2.2.2.1 + 1))) hx hb hK hP 80 0 rfl rfl (by omega) (by omega) rfl dL_doors_106 ?_
        refine top_i (x' := nI (D.2.2.2.2.2.1 + 1)) (pk_us) ?_
        refine lv_iconst (v := (1 : Int32)) hx hb dL_doors_107 (by decide) ?_
        refine lv_isub hx hb dL_doors_108 ?_
        refine top_i (x' := nI (D.2.2.2.2.2.1)) (nI_pred _) ?_
        refine lv_icmp_ne (tgt := 116) hx hb dL_doors_109 (by decide) (fun c_109 => ?_) (fun c_109 => ?_)
        · have c_109 : ¬ (D.2.2.2.2.2.1) = (D.2.2.2.2.2.1) := fun h9 => c_109 ((nI_eq (a := D.2.2.2.2.2.1) (b := D.2.2.2.2.2.1) (by omega) (by omega)).mpr h9)
          exact absurd rfl c_109
        · have c_109 : (D.2.2.2.2.2.1) = (D.2.2.2.2.2.1) := (nI_eq (a := D.2.2.2.2.2.1) (b := D.2.2.2.2.2.1) (by omega) (by omega)).mp c_109
          refine lv_iconst (v := (1 : Int32)) hx hb dL_doors_112 (by decide) ?_
          refine lv_goto (tgt := 117) hx hb dL_doors_113 (by decide) ?_
          refine W.widen (k := 4) (n := 24) (Nat.le_of_ble_eq_true rfl) (Nat.le_of_ble_eq_true rfl) ?_
          exact end_g (U := DS × HS × (Nat → Nat → Nat) × (Nat → Int32) × (Nat → Int32) × (Nat → Int32)) (ok := fun u9 => RA u9.1 M u9.2.2.2.1 u9.2.2.2.2.1 u9.2.2.2.2.2 q r ∧ u9.2.1.1 ≤ 6) (gu := fun u9 => [[(h, .inr (5, [.ref (Ad 0), .ref (At 0), .ref (As 0), .ref (Ac 0), .ref (u9.2.2.1 6 0)]))], dyW cyI Ad u9.1, hiW cyI cyO u9.2.2.1 u9.2.1, [(ag, .inl (cyI, 6, .inl (u9.2.2.2.1)))], [(ap, .inl (cyI, 20, .inl (u9.2.2.2.2.1)))], [(aw, .inl (cyI, 20, .inl (u9.2.2.2.2.2)))]]) ((dAdd D (nI (1 + v0)), svS V D, svM L V, upd g 0 (nI (D.2.2.2.2.2.1 + 1)), upd p D.2.2.2.2.2.1 (nI (1 + v0)), upd w D.2.2.2.2.2.1 (-1))) hx hb hr hlocks hK hP hD hS (⟨hA0.add hst0 (by omega) ⟨by omega, by omega⟩, svS_le hV⟩) dL_doors_117
      · have c_35 : (D.2.2.2.2.2.1) = (20) := (nI_eq (a := D.2.2.2.2.2.1) (b := 20) (by omega) (by omega)).mp c_35
        have hm9 : (!dHO D && decide (D.2.2.2.2.2.1 < 20)) = false := by rw [decide_eq_false (by omega), Bool.and_false]
        refine lv_aload_n hx hb dL_doors_38 rfl (lv_at hl 2 rfl) ?_
        refine lv_iload hx hb dL_doors_39 (lv_at hl 0 rfl) ?_
        refine gHi (gs := [[(h, .inr (5, [.ref (Ad 0), .ref (At 0), .ref (As 0), .ref (Ac 0), .ref (L 6 0)]))], dyW cyI Ad D, hiW cyI cyO L V, [(ag, .inl (cyI, 6, .inl (g)))], [(ap, .inl (cyI, 20, .inl (p)))], [(aw, .inl (cyI, 20, .inl (w)))]]) (As := [.ref (h), .int (nI (1 + v0))]) (rest := []) ⟨hx, hb, hml, hown, hts⟩ (t_L_addDoorstep_IS l G cyI cyO h Ad At As Ac L D (by omega) (1 + v0) (by omega) (by omega) (hm9) htr) (vx_cwSW 2 hts gL_doors_L_addDoorstep rfl rfl rfl (by decide +kernel) ⟨Nat.le_of_ble_eq_true rfl, Nat.le_of_ble_eq_true rfl⟩) hK hX hP hD hS hA [0, 1] rfl rfl (rfl : (2 : Nat) = 2) rfl hl.1 rfl (Nat.le_of_ble_eq_true rfl) dL_doors_41 ⟨Nat.le_of_ble_eq_true rfl, Nat.le_of_ble_eq_true rfl⟩ (fun H locs hP hD hS => ?_)
        have hP : va_P G vwCl (cat [[(h, .inr (5, [.ref (Ad 0), .ref (At 0), .ref (As 0), .ref (Ac 0), .ref (L 6 0)]))], dyW cyI Ad D, hiW cyI cyO L V, [(ag, .inl (cyI, 6, .inl (g)))], [(ap, .inl (cyI, 20, .inl (p)))], [(aw, .inl (cyI, 20, .inl (w)))]]) H := hP
        have hD : va_D A9 (cat [[(h, .inr (5, [.ref (Ad 0), .ref (At 0), .ref (As 0), .ref (Ac 0), .ref (L 6 0)]))], dyW cyI Ad D, hiW cyI cyO L V, [(ag, .inl (cyI, 6, .inl (g)))], [(ap, .inl (cyI, 20, .inl (p)))], [(aw, .inl (cyI, 20, .inl (w)))]]) := hD
        refine W.cs (cells' := 1) (slots' := 6) rfl rfl ?_
        refine lv_bipush (v := (-33 : Int32)) hx hb dL_doors_44 (by decide) ?_
        refine lv_icmp_ne (tgt := 74) hx hb dL_doors_46 (by decide) (fun c_46 => ?_) (fun c_46 => ?_)
        · exact absurd c_46 (by decide)
        · refine lv_aload_n hx hb dL_doors_49 rfl (lv_at hl 2 rfl) ?_
          refine lv_iconst (v := (0 : Int32)) hx hb dL_doors_50 (by decide) ?_
          refine gHi (gs := [[(h, .inr (5, [.ref (Ad 0), .ref (At 0), .ref (As 0), .ref (Ac 0), .ref (L 6 0)]))], dyW cyI Ad D, hiW cyI cyO L V, [(ag, .inl (cyI, 6, .inl (g)))], [(ap, .inl (cyI, 20, .inl (p)))], [(aw, .inl (cyI, 20, .inl (w)))]]) (As := [.ref (h), .int ((0 : Int32))]) (rest := []) ⟨hx, hb, hml, hown, hts⟩ (t_L_addDoorstep_IA l G cyI cyO h Ad At As Ac L D ((0 : Int32)) (by decide) htr) (vx_cwSW 2 hts gL_doors_L_addDoorstep rfl rfl rfl (by decide +kernel) ⟨Nat.le_of_ble_eq_true rfl, Nat.le_of_ble_eq_true rfl⟩) hK hX hP hD hS hA [0, 1] rfl rfl (rfl : (2 : Nat) = 2) rfl hl.1 rfl (Nat.le_of_ble_eq_true rfl) dL_doors_51 ⟨Nat.le_of_ble_eq_true rfl, Nat.le_of_ble_eq_true rfl⟩ (fun H locs hP hD hS => ?_)
          have hP : va_P G vwCl (cat [[(h, .inr (5, [.ref (Ad 0), .ref (At 0), .ref (As 0), .ref (Ac 0), .ref (L 6 0)]))], dyW cyI Ad D, hiW cyI cyO L V, [(ag, .inl (cyI, 6, .inl (g)))], [(ap, .inl (cyI, 20, .inl (p)))], [(aw, .inl (cyI, 20, .inl (w)))]]) H := hP
          have hD : va_D A9 (cat [[(h, .inr (5, [.ref (Ad 0), .ref (At 0), .ref (As 0), .ref (Ac 0), .ref (L 6 0)]))], dyW cyI Ad D, hiW cyI cyO L V, [(ag, .inl (cyI, 6, .inl (g)))], [(ap, .inl (cyI, 20, .inl (p)))], [(aw, .inl (cyI, 20, .inl (w)))]]) := hD
          refine W.cs (cells' := 2) (slots' := 12) rfl rfl ?_
          refine lv_bipush (v := (-32 : Int32)) hx hb dL_doors_54 (by decide) ?_
          refine lv_icmp_ne (tgt := 74) hx hb dL_doors_56 (by decide) (fun c_56 => ?_) (fun c_56 => ?_)
          · exact absurd c_56 (by decide)
          · refine lv_aload_n hx hb dL_doors_59 rfl (lv_at hl 2 rfl) ?_
            refine lv_bipush (v := (10 : Int32)) hx hb dL_doors_60 (by decide) ?_
            refine gHi (gs := [[(h, .inr (5, [.ref (Ad 0), .ref (At 0), .ref (As 0), .ref (Ac 0), .ref (L 6 0)]))], dyW cyI Ad D, hiW cyI cyO L V, [(ag, .inl (cyI, 6, .inl (g)))], [(ap, .inl (cyI, 20, .inl (p)))], [(aw, .inl (cyI, 20, .inl (w)))]]) (As := [.ref (h), .int ((10 : Int32))]) (rest := []) ⟨hx, hb, hml, hown, hts⟩ (t_L_addDoorstep_IA l G cyI cyO h Ad At As Ac L D ((10 : Int32)) (by decide) htr) (vx_cwSW 2 hts gL_doors_L_addDoorstep rfl rfl rfl (by decide +kernel) ⟨Nat.le_of_ble_eq_true rfl, Nat.le_of_ble_eq_true rfl⟩) hK hX hP hD hS hA [0, 1] rfl rfl (rfl : (2 : Nat) = 2) rfl hl.1 rfl (Nat.le_of_ble_eq_true rfl) dL_doors_62 ⟨Nat.le_of_ble_eq_true rfl, Nat.le_of_ble_eq_true rfl⟩ (fun H locs hP hD hS => ?_)
            have hP : va_P G vwCl (cat [[(h, .inr (5, [.ref (Ad 0), .ref (At 0), .ref (As 0), .ref (Ac 0), .ref (L 6 0)]))], dyW cyI Ad D, hiW cyI cyO L V, [(ag, .inl (cyI, 6, .inl (g)))], [(ap, .inl (cyI, 20, .inl (p)))], [(aw, .inl (cyI, 20, .inl (w)))]]) H := hP
            have hD : va_D A9 (cat [[(h, .inr (5, [.ref (Ad 0), .ref (At 0), .ref (As 0), .ref (Ac 0), .ref (L 6 0)]))], dyW cyI Ad D, hiW cyI cyO L V, [(ag, .inl (cyI, 6, .inl (g)))], [(ap, .inl (cyI, 20, .inl (p)))], [(aw, .inl (cyI, 20, .inl (w)))]]) := hD
            refine W.cs (cells' := 3) (slots' := 18) rfl rfl ?_
            refine lv_bipush (v := (-32 : Int32)) hx hb dL_doors_65 (by decide) ?_
            refine lv_icmp_ne (tgt := 74) hx hb dL_doors_67 (by decide) (fun c_67 => ?_) (fun c_67 => ?_)
            · exact absurd c_67 (by decide)
            · refine lv_iconst (v := (1 : Int32)) hx hb dL_doors_70 (by decide) ?_
              refine lv_goto (tgt := 75) hx hb dL_doors_71 (by decide) ?_
              refine W.widen (k := 4) (n := 24) (Nat.le_of_ble_eq_true rfl) (Nat.le_of_ble_eq_true rfl) ?_
              exact end_g (U := DS × HS × (Nat → Nat → Nat) × (Nat → Int32) × (Nat → Int32) × (Nat → Int32)) (ok := fun u9 => RA u9.1 M u9.2.2.2.1 u9.2.2.2.2.1 u9.2.2.2.2.2 q r ∧ u9.2.1.1 ≤ 6) (gu := fun u9 => [[(h, .inr (5, [.ref (Ad 0), .ref (At 0), .ref (As 0), .ref (Ac 0), .ref (u9.2.2.1 6 0)]))], dyW cyI Ad u9.1, hiW cyI cyO u9.2.2.1 u9.2.1, [(ag, .inl (cyI, 6, .inl (u9.2.2.2.1)))], [(ap, .inl (cyI, 20, .inl (u9.2.2.2.2.1)))], [(aw, .inl (cyI, 20, .inl (u9.2.2.2.2.2)))]]) ((D, V, L, g, p, w)) hx hb hr hlocks hK hP hD hS (⟨hA0, hV⟩) dL_doors_75

/-! ===== DoorstepRounds: what can throw, when it does ===== -/
theorem dig_ng {x lo hi : Int32} (h : isDig x lo hi = false) (h1 : ¬ x < lo) : hi < x := by
  unfold isDig at h
  rw [decide_eq_false h1] at h
  simp only [Bool.not_false, Bool.true_and, Bool.not_eq_false', decide_eq_true_eq] at h
  exact h
theorem dig_hi {x : Int32} (h : isDig x 0 5 = false) (h1 : ¬ x < 0) (_ : True) : ¬ x < 6 := by
  have h2 := dig_ng h h1
  rw [Int32.lt_iff_toInt_lt] at h2 ⊢
  have e5 : (5 : Int32).toInt = 5 := by decide
  have e6 : (6 : Int32).toInt = 6 := by decide
  omega
theorem dig_le {x lo hi : Int32} (h : isDig x lo hi = false) (h1 : ¬ x < lo) : ¬ x ≤ hi := by
  have h2 := dig_ng h h1
  rw [Int32.lt_iff_toInt_lt] at h2
  rw [Int32.le_iff_toInt_le]
  omega

abbrev rx_X5_checkDoorstep : Room := { frames := 6, cells := 1, slots := 6, locals := 82 }
set_option maxHeartbeats 4000000 in
set_option maxRecDepth 100000 in
theorem x_X5_checkDoorstep (l : Launch) (G : va_G) (cyI cyO : ClassId) (h : Nat) (Ad At As Ac : Nat → Nat) (L : Nat → Nat → Nat) (D : DS) (hn : D.2.2.2.2.2.1 ≤ 20) (x : Int32) (hx9 : dHas D.2.2.2.2.2.1 x = false) (htr : l.stackTraces = false) : CX l G (TY cyI cyO) yX5_checkDoorstep wsX5_checkDoorstep rx_X5_checkDoorstep [.ref (h), .int (x)] [[(h, .inr (5, [.ref (Ad 0), .ref (At 0), .ref (As 0), .ref (Ac 0), .ref (L 6 0)]))], dyW cyI Ad D] xIO := by
  refine wk_X (cc := cX5_checkDoorstep) (maxL := 2) (ret := none) (by decide) rfl (Nat.le_of_ble_eq_true rfl) ?_
  intro p9 e9 s9 m9 b9 t9 c9 A9 ls hx hb hts hown hlocks hml hK hA hD hP hl hS hX htab
  have hl : lv_has ls 2 [(0, .ref (h)), (1, .int (x))] := hl
  have hinX5 : ∀ w ∈ wsX50, w ∈ wsX5_checkDoorstep := by decide +kernel
  have hf10 := hts (.fieldLink RX5 10 "DoorstepRounds" "dairy" "LDoorstepRounds$Dairy;") (by decide +kernel)
  refine lv_aload_n hx hb dX5_checkDoorstep_0 rfl (lv_at hl 0 rfl) ?_
  refine va_get (v := .ref (Ad 0)) (C := RX5) (T := TX5) (N := 5) hx hb hts hinX5 hown hK hP 0 rfl rfl 0 (by decide) hf10 (fun _ h9 => h9) rfl dX5_checkDoorstep_1 ?_
  refine lv_iload_n hx hb dX5_checkDoorstep_4 rfl (lv_at hl 1 rfl) ?_
  refine gVi (gs := [[(h, .inr (5, [.ref (Ad 0), .ref (At 0), .ref (As 0), .ref (Ac 0), .ref (L 6 0)]))], dyW cyI Ad D]) (As := [.int (x)]) (rest := []) ⟨hx, hb, hml, hown, hts⟩ (c_X1_hasDoorstep l G cyI cyO Ad D x) (cwV 1 hts gX5_checkDoorstep_X1_hasDoorstep rfl rfl rfl (by decide +kernel) ⟨Nat.le_of_ble_eq_true rfl, Nat.le_of_ble_eq_true rfl⟩) hK hP hD hS hA [1] rfl rfl rfl 0 1 rfl rfl rfl hl.1 rfl (Nat.le_of_ble_eq_true rfl) dX5_checkDoorstep_5 ⟨Nat.zero_le _, Nat.zero_le _⟩ (fun H locs hP hD hS => ?_)
  have hP : va_P G vwCl (cat [[(h, .inr (5, [.ref (Ad 0), .ref (At 0), .ref (As 0), .ref (Ac 0), .ref (L 6 0)]))], dyW cyI Ad D]) H := hP
  have hD : va_D A9 (cat [[(h, .inr (5, [.ref (Ad 0), .ref (At 0), .ref (As 0), .ref (Ac 0), .ref (L 6 0)]))], dyW cyI Ad D]) := hD
  refine lv_if_ne (tgt := 21) hx hb dX5_checkDoorstep_8 (by decide) (fun c_8 => ?_) (fun c_8 => ?_)
  · have c_8 : (dHas D.2.2.2.2.2.1 x) = true := bI_nz.mp c_8
    rw [hx9] at c_8; cases c_8
  · have c_8 : (dHas D.2.2.2.2.2.1 x) = false := bI_z.mp c_8
    have hP : va_P G vwCl (cat [[(h, .inr (5, [.ref (Ad 0), .ref (At 0), .ref (As 0), .ref (Ac 0), .ref (L 6 0)]))], dyW cyI Ad D]) _ := hP
    have hD : va_D A9 (cat [[(h, .inr (5, [.ref (Ad 0), .ref (At 0), .ref (As 0), .ref (Ac 0), .ref (L 6 0)]))], dyW cyI Ad D]) := hD
    exact gThrow (E := xIO) (text := "there is no such doorstep") (ik := 231) (is := 233) (ic := 235) hx hb htr hown (by decide) (by decide +kernel) (by decide) (hts (.classLink RX5 231 xIO) (by decide +kernel)) (hts (.initialized xIO) (by decide +kernel)) (fun w h9 => hts w (List.mem_cons_of_mem _ (List.mem_append_right _ h9))) xb_IO xo_IO hX hK hP hD hS hl.1 hml dX5_checkDoorstep_11 dX5_checkDoorstep_14 dX5_checkDoorstep_15 dX5_checkDoorstep_17 dX5_checkDoorstep_20 htab hlocks rfl ⟨by decide, by decide, Nat.le_refl _, Nat.le_refl _⟩
abbrev rx_X5_checkMilkman : Room := { frames := 6, cells := 1, slots := 6, locals := 82 }
set_option maxHeartbeats 4000000 in
set_option maxRecDepth 100000 in
theorem x_X5_checkMilkman (l : Launch) (G : va_G) (cyI cyO : ClassId) (x : Int32) (hx9 : isDig x 0 5 = false) (htr : l.stackTraces = false) : CX l G (TY cyI cyO) yX5_checkMilkman wsX5_checkMilkman rx_X5_checkMilkman [.int (x)] [] xIO := by
  refine wk_X (cc := cX5_checkMilkman) (maxL := 1) (ret := none) (by decide) rfl (Nat.le_of_ble_eq_true rfl) ?_
  intro p9 e9 s9 m9 b9 t9 c9 A9 ls hx hb hts hown hlocks hml hK hA hD hP hl hS hX htab
  have hl : lv_has ls 1 [(0, .int (x))] := hl
  refine lv_iload_n hx hb dX5_checkMilkman_0 rfl (lv_at hl 0 rfl) ?_
  refine lv_if_lt (tgt := 10) hx hb dX5_checkMilkman_1 (by decide) (fun c_1 => ?_) (fun c_1 => ?_)
  · have hP : va_P G vwCl (cat []) _ := hP
    have hD : va_D A9 (cat []) := hD
    exact gThrow (E := xIO) (text := "there is no such milkman") (ik := 231) (is := 236) (ic := 235) hx hb htr hown (by decide) (by decide +kernel) (by decide) (hts (.classLink RX5 231 xIO) (by decide +kernel)) (hts (.initialized xIO) (by decide +kernel)) (fun w h9 => hts w (List.mem_cons_of_mem _ (List.mem_append_right _ h9))) xb_IO xo_IO hX hK hP hD hS hl.1 hml dX5_checkMilkman_10 dX5_checkMilkman_13 dX5_checkMilkman_14 dX5_checkMilkman_16 dX5_checkMilkman_19 htab hlocks rfl ⟨by decide, by decide, Nat.le_refl _, Nat.le_refl _⟩
  · refine lv_iload_n hx hb dX5_checkMilkman_4 rfl (lv_at hl 0 rfl) ?_
    refine lv_bipush (v := (6 : Int32)) hx hb dX5_checkMilkman_5 (by decide) ?_
    refine lv_icmp_lt (tgt := 20) hx hb dX5_checkMilkman_7 (by decide) (fun c_7 => ?_) (fun c_7 => ?_)
    · exact absurd c_7 (dig_hi hx9 c_1 (by decide))
    · have hP : va_P G vwCl (cat []) _ := hP
      have hD : va_D A9 (cat []) := hD
      exact gThrow (E := xIO) (text := "there is no such milkman") (ik := 231) (is := 236) (ic := 235) hx hb htr hown (by decide) (by decide +kernel) (by decide) (hts (.classLink RX5 231 xIO) (by decide +kernel)) (hts (.initialized xIO) (by decide +kernel)) (fun w h9 => hts w (List.mem_cons_of_mem _ (List.mem_append_right _ h9))) xb_IO xo_IO hX hK hP hD hS hl.1 hml dX5_checkMilkman_10 dX5_checkMilkman_13 dX5_checkMilkman_14 dX5_checkMilkman_16 dX5_checkMilkman_19 htab hlocks rfl ⟨by decide, by decide, Nat.le_refl _, Nat.le_refl _⟩
abbrev rx_X5_checkPints : Room := { frames := 6, cells := 1, slots := 6, locals := 82 }
set_option maxHeartbeats 4000000 in
set_option maxRecDepth 100000 in
theorem x_X5_checkPints (l : Launch) (G : va_G) (cyI cyO : ClassId) (x : Int32) (hx9 : isDig x 1 9 = false) (htr : l.stackTraces = false) : CX l G (TY cyI cyO) yX5_checkPints wsX5_checkPints rx_X5_checkPints [.int (x)] [] xIA := by
  refine wk_X (cc := cX5_checkPints) (maxL := 1) (ret := none) (by decide) rfl (Nat.le_of_ble_eq_true rfl) ?_
  intro p9 e9 s9 m9 b9 t9 c9 A9 ls hx hb hts hown hlocks hml hK hA hD hP hl hS hX htab
  have hl : lv_has ls 1 [(0, .int (x))] := hl
  refine lv_iload_n hx hb dX5_checkPints_0 rfl (lv_at hl 0 rfl) ?_
  refine lv_iconst (v := (1 : Int32)) hx hb dX5_checkPints_1 (by decide) ?_
  refine lv_icmp_lt (tgt := 11) hx hb dX5_checkPints_2 (by decide) (fun c_2 => ?_) (fun c_2 => ?_)
  · have hP : va_P G vwCl (cat []) _ := hP
    have hD : va_D A9 (cat []) := hD
    exact gThrow (E := xIA) (text := "pints are 1 to 9") (ik := 170) (is := 238) (ic := 174) hx hb htr hown (by decide) (by decide +kernel) (by decide) (hts (.classLink RX5 170 xIA) (by decide +kernel)) (hts (.initialized xIA) (by decide +kernel)) (fun w h9 => hts w (List.mem_cons_of_mem _ (List.mem_append_right _ h9))) xb_IA xo_IA hX hK hP hD hS hl.1 hml dX5_checkPints_11 dX5_checkPints_14 dX5_checkPints_15 dX5_checkPints_17 dX5_checkPints_20 htab hlocks rfl ⟨by decide, by decide, Nat.le_refl _, Nat.le_refl _⟩
  · refine lv_iload_n hx hb dX5_checkPints_5 rfl (lv_at hl 0 rfl) ?_
    refine lv_bipush (v := (9 : Int32)) hx hb dX5_checkPints_6 (by decide) ?_
    refine lv_icmp_le (tgt := 21) hx hb dX5_checkPints_8 (by decide) (fun c_8 => ?_) (fun c_8 => ?_)
    · exact absurd c_8 (dig_le hx9 c_2)
    · have hP : va_P G vwCl (cat []) _ := hP
      have hD : va_D A9 (cat []) := hD
      exact gThrow (E := xIA) (text := "pints are 1 to 9") (ik := 170) (is := 238) (ic := 174) hx hb htr hown (by decide) (by decide +kernel) (by decide) (hts (.classLink RX5 170 xIA) (by decide +kernel)) (hts (.initialized xIA) (by decide +kernel)) (fun w h9 => hts w (List.mem_cons_of_mem _ (List.mem_append_right _ h9))) xb_IA xo_IA hX hK hP hD hS hl.1 hml dX5_checkPints_11 dX5_checkPints_14 dX5_checkPints_15 dX5_checkPints_17 dX5_checkPints_20 htab hlocks rfl ⟨by decide, by decide, Nat.le_refl _, Nat.le_refl _⟩
abbrev rx_X5_addDoorstep : Room := { frames := 7, cells := 1, slots := 6, locals := 102 }
set_option maxHeartbeats 4000000 in
set_option maxRecDepth 100000 in
theorem x_X5_addDoorstep_IA (l : Launch) (G : va_G) (cyI cyO : ClassId) (h : Nat) (Ad At As Ac : Nat → Nat) (L : Nat → Nat → Nat) (D : DS) (x : Int32) (hx9 : isDig x 1 9 = false) (htr : l.stackTraces = false) : CX l G (TY cyI cyO) yX5_addDoorstep wsX5_addDoorstep rx_X5_addDoorstep [.ref (h), .int (x)] [[(h, .inr (5, [.ref (Ad 0), .ref (At 0), .ref (As 0), .ref (Ac 0), .ref (L 6 0)]))], dyW cyI Ad D] xIA := by
  refine wk_X (cc := cX5_addDoorstep) (maxL := 2) (ret := (some .int)) (by decide) rfl (Nat.le_of_ble_eq_true rfl) ?_
  intro p9 e9 s9 m9 b9 t9 c9 A9 ls hx hb hts hown hlocks hml hK hA hD hP hl hS hX htab
  have hl : lv_has ls 2 [(0, .ref (h)), (1, .int (x))] := hl
  have hinX5 : ∀ w ∈ wsX50, w ∈ wsX5_addDoorstep := by decide +kernel
  have hf10 := hts (.fieldLink RX5 10 "DoorstepRounds" "dairy" "LDoorstepRounds$Dairy;") (by decide +kernel)
  have hf36 := hts (.fieldLink RX5 36 "DoorstepRounds" "history" "LDoorstepRounds$History;") (by decide +kernel)
  refine lv_iload_n hx hb dX5_addDoorstep_0 rfl (lv_at hl 1 rfl) ?_
  refine gXS (gs := [[(h, .inr (5, [.ref (Ad 0), .ref (At 0), .ref (As 0), .ref (Ac 0), .ref (L 6 0)]))], dyW cyI Ad D]) (As := [.int (x)]) (rest := []) ⟨hx, hb, hml, hown, hts⟩ (x_X5_checkPints l G cyI cyO x hx9 htr) (va_cwS 1 hts gX5_addDoorstep_X5_checkPints rfl rfl rfl (by decide +kernel) ⟨Nat.le_of_ble_eq_true rfl, Nat.le_of_ble_eq_true rfl⟩) hK hX hP hD hS hA [] rfl rfl rfl hl.1 rfl (Nat.le_of_ble_eq_true rfl) dX5_addDoorstep_1 ⟨Nat.le_refl _, Nat.le_refl _⟩ (fun ce9 q9 H locs hP hD hS hce hcv hcl => ?_)
  have hP : va_P G vwCl (cat [[(h, .inr (5, [.ref (Ad 0), .ref (At 0), .ref (As 0), .ref (Ac 0), .ref (L 6 0)]))], dyW cyI Ad D]) _ := hP
  have hD : va_D A9 (cat [[(h, .inr (5, [.ref (Ad 0), .ref (At 0), .ref (As 0), .ref (Ac 0), .ref (L 6 0)]))], dyW cyI Ad D]) := hD
  exact gX_out htab hlocks hK hP hD hS hce hcv hcl
set_option maxHeartbeats 4000000 in
set_option maxRecDepth 100000 in
theorem x_X5_addDoorstep_IS (l : Launch) (G : va_G) (cyI cyO : ClassId) (h : Nat) (Ad At As Ac : Nat → Nat) (L : Nat → Nat → Nat) (D : DS) (hn : D.2.2.2.2.2.1 ≤ 20) (v : Nat) (h1 : 1 ≤ v) (h9 : v ≤ 9) (hm : (!dHO D && decide (D.2.2.2.2.2.1 < 20)) = false) (htr : l.stackTraces = false) : CX l G (TY cyI cyO) yX5_addDoorstep wsX5_addDoorstep rx_X5_addDoorstep [.ref (h), .int (nI (v))] [[(h, .inr (5, [.ref (Ad 0), .ref (At 0), .ref (As 0), .ref (Ac 0), .ref (L 6 0)]))], dyW cyI Ad D] xIS := by
  refine wk_X (cc := cX5_addDoorstep) (maxL := 2) (ret := (some .int)) (by decide) rfl (Nat.le_of_ble_eq_true rfl) ?_
  intro p9 e9 s9 m9 b9 t9 c9 A9 ls hx hb hts hown hlocks hml hK hA hD hP hl hS hX htab
  have hl : lv_has ls 2 [(0, .ref (h)), (1, .int (nI (v)))] := hl
  have hinX5 : ∀ w ∈ wsX50, w ∈ wsX5_addDoorstep := by decide +kernel
  have hf10 := hts (.fieldLink RX5 10 "DoorstepRounds" "dairy" "LDoorstepRounds$Dairy;") (by decide +kernel)
  have hf36 := hts (.fieldLink RX5 36 "DoorstepRounds" "history" "LDoorstepRounds$History;") (by decide +kernel)
  refine lv_iload_n hx hb dX5_addDoorstep_0 rfl (lv_at hl 1 rfl) ?_
  refine gSv (gs := [[(h, .inr (5, [.ref (Ad 0), .ref (At 0), .ref (As 0), .ref (Ac 0), .ref (L 6 0)]))], dyW cyI Ad D]) (As := [.int (nI (v))]) (rest := []) ⟨hx, hb, hml, hown, hts⟩ (c_X5_checkPints l G cyI cyO v (by omega) (by omega)) (va_cwS 1 hts gX5_addDoorstep_X5_checkPints rfl rfl rfl (by decide +kernel) ⟨Nat.le_of_ble_eq_true rfl, Nat.le_of_ble_eq_true rfl⟩) hK hP hD hS hA [] rfl rfl rfl rfl hl.1 rfl (Nat.le_of_ble_eq_true rfl) dX5_addDoorstep_1 ⟨Nat.zero_le _, Nat.zero_le _⟩ (fun H locs hP hD hS => ?_)
  have hP : va_P G vwCl (cat [[(h, .inr (5, [.ref (Ad 0), .ref (At 0), .ref (As 0), .ref (Ac 0), .ref (L 6 0)]))], dyW cyI Ad D]) H := hP
  have hD : va_D A9 (cat [[(h, .inr (5, [.ref (Ad 0), .ref (At 0), .ref (As 0), .ref (Ac 0), .ref (L 6 0)]))], dyW cyI Ad D]) := hD
  refine lv_aload_n hx hb dX5_addDoorstep_4 rfl (lv_at hl 0 rfl) ?_
  refine va_get (v := .ref (Ad 0)) (C := RX5) (T := TX5) (N := 5) hx hb hts hinX5 hown hK hP 0 rfl rfl 0 (by decide) hf10 (fun _ h9 => h9) rfl dX5_addDoorstep_5 ?_
  refine gVi (gs := [[(h, .inr (5, [.ref (Ad 0), .ref (At 0), .ref (As 0), .ref (Ac 0), .ref (L 6 0)]))], dyW cyI Ad D]) (As := []) (rest := []) ⟨hx, hb, hml, hown, hts⟩ (c_X1_mayAdd l G cyI cyO Ad D (by omega)) (cwV 0 hts gX5_addDoorstep_X1_mayAdd rfl rfl rfl (by decide +kernel) ⟨Nat.le_of_ble_eq_true rfl, Nat.le_of_ble_eq_true rfl⟩) hK hP hD hS hA [1] rfl rfl rfl 0 1 rfl rfl rfl hl.1 rfl (Nat.le_of_ble_eq_true rfl) dX5_addDoorstep_8 ⟨Nat.zero_le _, Nat.zero_le _⟩ (fun H locs hP hD hS => ?_)
  have hP : va_P G vwCl (cat [[(h, .inr (5, [.ref (Ad 0), .ref (At 0), .ref (As 0), .ref (Ac 0), .ref (L 6 0)]))], dyW cyI Ad D]) H := hP
  have hD : va_D A9 (cat [[(h, .inr (5, [.ref (Ad 0), .ref (At 0), .ref (As 0), .ref (Ac 0), .ref (L 6 0)]))], dyW cyI Ad D]) := hD
  refine lv_if_ne (tgt := 24) hx hb dX5_addDoorstep_11 (by decide) (fun c_11 => ?_) (fun c_11 => ?_)
  · have c_11 : (!dHO D && decide (D.2.2.2.2.2.1 < 20)) = true := bI_nz.mp c_11
    rw [hm] at c_11; cases c_11
  · have c_11 : (!dHO D && decide (D.2.2.2.2.2.1 < 20)) = false := bI_z.mp c_11
    have hP : va_P G vwCl (cat [[(h, .inr (5, [.ref (Ad 0), .ref (At 0), .ref (As 0), .ref (Ac 0), .ref (L 6 0)]))], dyW cyI Ad D]) _ := hP
    have hD : va_D A9 (cat [[(h, .inr (5, [.ref (Ad 0), .ref (At 0), .ref (As 0), .ref (Ac 0), .ref (L 6 0)]))], dyW cyI Ad D]) := hD
    exact gThrow (E := xIS) (text := "there is a handover, or there are 20 doorsteps") (ik := 48) (is := 50) (ic := 52) hx hb htr hown (by decide) (by decide +kernel) (by decide) (hts (.classLink RX5 48 xIS) (by decide +kernel)) (hts (.initialized xIS) (by decide +kernel)) (fun w h9 => hts w (List.mem_cons_of_mem _ (List.mem_append_left _ (List.mem_append_right _ h9)))) xb_IS xo_IS hX hK hP hD hS hl.1 hml dX5_addDoorstep_14 dX5_addDoorstep_17 dX5_addDoorstep_18 dX5_addDoorstep_20 dX5_addDoorstep_23 htab hlocks rfl ⟨by decide, by decide, Nat.le_refl _, Nat.le_refl _⟩
abbrev rx_X5_removeDoorstep : Room := { frames := 7, cells := 1, slots := 6, locals := 103 }
set_option maxHeartbeats 4000000 in
set_option maxRecDepth 100000 in
theorem x_X5_removeDoorstep_IO (l : Launch) (G : va_G) (cyI cyO : ClassId) (h : Nat) (Ad At As Ac : Nat → Nat) (L : Nat → Nat → Nat) (D : DS) (hn : D.2.2.2.2.2.1 ≤ 20) (x : Int32) (hx9 : dHas D.2.2.2.2.2.1 x = false) (htr : l.stackTraces = false) : CX l G (TY cyI cyO) yX5_removeDoorstep wsX5_removeDoorstep rx_X5_removeDoorstep [.ref (h), .int (x)] [[(h, .inr (5, [.ref (Ad 0), .ref (At 0), .ref (As 0), .ref (Ac 0), .ref (L 6 0)]))], dyW cyI Ad D] xIO := by
  refine wk_X (cc := cX5_removeDoorstep) (maxL := 2) (ret := (some .int)) (by decide) rfl (Nat.le_of_ble_eq_true rfl) ?_
  intro p9 e9 s9 m9 b9 t9 c9 A9 ls hx hb hts hown hlocks hml hK hA hD hP hl hS hX htab
  have hl : lv_has ls 2 [(0, .ref (h)), (1, .int (x))] := hl
  have hinX5 : ∀ w ∈ wsX50, w ∈ wsX5_removeDoorstep := by decide +kernel
  have hf10 := hts (.fieldLink RX5 10 "DoorstepRounds" "dairy" "LDoorstepRounds$Dairy;") (by decide +kernel)
  have hf36 := hts (.fieldLink RX5 36 "DoorstepRounds" "history" "LDoorstepRounds$History;") (by decide +kernel)
  refine lv_aload_n hx hb dX5_removeDoorstep_0 rfl (lv_at hl 0 rfl) ?_
  refine lv_iload_n hx hb dX5_removeDoorstep_1 rfl (lv_at hl 1 rfl) ?_
  refine gXV (gs := [[(h, .inr (5, [.ref (Ad 0), .ref (At 0), .ref (As 0), .ref (Ac 0), .ref (L 6 0)]))], dyW cyI Ad D]) (As := [.int (x)]) (rest := []) ⟨hx, hb, hml, hown, hts⟩ (x_X5_checkDoorstep l G cyI cyO h Ad At As Ac L D hn x hx9 htr) (cwV 1 hts gX5_removeDoorstep_X5_checkDoorstep rfl rfl rfl (by decide +kernel) ⟨Nat.le_of_ble_eq_true rfl, Nat.le_of_ble_eq_true rfl⟩) hK hX hP hD hS hA [0, 1] rfl rfl 0 5 rfl rfl rfl hl.1 rfl (Nat.le_of_ble_eq_true rfl) dX5_removeDoorstep_2 ⟨Nat.le_refl _, Nat.le_refl _⟩ (fun ce9 q9 H locs hP hD hS hce hcv hcl => ?_)
  have hP : va_P G vwCl (cat [[(h, .inr (5, [.ref (Ad 0), .ref (At 0), .ref (As 0), .ref (Ac 0), .ref (L 6 0)]))], dyW cyI Ad D]) _ := hP
  have hD : va_D A9 (cat [[(h, .inr (5, [.ref (Ad 0), .ref (At 0), .ref (As 0), .ref (Ac 0), .ref (L 6 0)]))], dyW cyI Ad D]) := hD
  exact gX_out htab hlocks hK hP hD hS hce hcv hcl
set_option maxHeartbeats 4000000 in
set_option maxRecDepth 100000 in
theorem x_X5_removeDoorstep_IS (l : Launch) (G : va_G) (cyI cyO : ClassId) (h : Nat) (Ad At As Ac : Nat → Nat) (L : Nat → Nat → Nat) (D : DS) (hn : D.2.2.2.2.2.1 ≤ 20) (k : Nat) (hk : k < D.2.2.2.2.2.1) (ho : dHO D = true) (htr : l.stackTraces = false) : CX l G (TY cyI cyO) yX5_removeDoorstep wsX5_removeDoorstep rx_X5_removeDoorstep [.ref (h), .int (nI (k))] [[(h, .inr (5, [.ref (Ad 0), .ref (At 0), .ref (As 0), .ref (Ac 0), .ref (L 6 0)]))], dyW cyI Ad D] xIS := by
  refine wk_X (cc := cX5_removeDoorstep) (maxL := 2) (ret := (some .int)) (by decide) rfl (Nat.le_of_ble_eq_true rfl) ?_
  intro p9 e9 s9 m9 b9 t9 c9 A9 ls hx hb hts hown hlocks hml hK hA hD hP hl hS hX htab
  have hl : lv_has ls 2 [(0, .ref (h)), (1, .int (nI (k)))] := hl
  have hinX5 : ∀ w ∈ wsX50, w ∈ wsX5_removeDoorstep := by decide +kernel
  have hf10 := hts (.fieldLink RX5 10 "DoorstepRounds" "dairy" "LDoorstepRounds$Dairy;") (by decide +kernel)
  have hf36 := hts (.fieldLink RX5 36 "DoorstepRounds" "history" "LDoorstepRounds$History;") (by decide +kernel)
  refine lv_aload_n hx hb dX5_removeDoorstep_0 rfl (lv_at hl 0 rfl) ?_
  refine lv_iload_n hx hb dX5_removeDoorstep_1 rfl (lv_at hl 1 rfl) ?_
  refine gVv (gs := [[(h, .inr (5, [.ref (Ad 0), .ref (At 0), .ref (As 0), .ref (Ac 0), .ref (L 6 0)]))], dyW cyI Ad D]) (As := [.int (nI (k))]) (rest := []) ⟨hx, hb, hml, hown, hts⟩ (c_X5_checkDoorstep l G cyI cyO h Ad At As Ac L D (by omega) k (by omega)) (cwV 1 hts gX5_removeDoorstep_X5_checkDoorstep rfl rfl rfl (by decide +kernel) ⟨Nat.le_of_ble_eq_true rfl, Nat.le_of_ble_eq_true rfl⟩) hK hP hD hS hA [0, 1] rfl rfl rfl 0 5 rfl rfl rfl hl.1 rfl (Nat.le_of_ble_eq_true rfl) dX5_removeDoorstep_2 ⟨Nat.zero_le _, Nat.zero_le _⟩ (fun H locs hP hD hS => ?_)
  have hP : va_P G vwCl (cat [[(h, .inr (5, [.ref (Ad 0), .ref (At 0), .ref (As 0), .ref (Ac 0), .ref (L 6 0)]))], dyW cyI Ad D]) H := hP
  have hD : va_D A9 (cat [[(h, .inr (5, [.ref (Ad 0), .ref (At 0), .ref (As 0), .ref (Ac 0), .ref (L 6 0)]))], dyW cyI Ad D]) := hD
  refine lv_aload_n hx hb dX5_removeDoorstep_5 rfl (lv_at hl 0 rfl) ?_
  refine va_get (v := .ref (Ad 0)) (C := RX5) (T := TX5) (N := 5) hx hb hts hinX5 hown hK hP 0 rfl rfl 0 (by decide) hf10 (fun _ h9 => h9) rfl dX5_removeDoorstep_6 ?_
  refine lv_iload_n hx hb dX5_removeDoorstep_9 rfl (lv_at hl 1 rfl) ?_
  refine gVi (gs := [[(h, .inr (5, [.ref (Ad 0), .ref (At 0), .ref (As 0), .ref (Ac 0), .ref (L 6 0)]))], dyW cyI Ad D]) (As := [.int (nI (k))]) (rest := []) ⟨hx, hb, hml, hown, hts⟩ (c_X1_mayRemove l G cyI cyO Ad D (nI (k))) (cwV 1 hts gX5_removeDoorstep_X1_mayRemove rfl rfl rfl (by decide +kernel) ⟨Nat.le_of_ble_eq_true rfl, Nat.le_of_ble_eq_true rfl⟩) hK hP hD hS hA [1] rfl rfl rfl 0 1 rfl rfl rfl hl.1 rfl (Nat.le_of_ble_eq_true rfl) dX5_removeDoorstep_10 ⟨Nat.zero_le _, Nat.zero_le _⟩ (fun H locs hP hD hS => ?_)
  have hP : va_P G vwCl (cat [[(h, .inr (5, [.ref (Ad 0), .ref (At 0), .ref (As 0), .ref (Ac 0), .ref (L 6 0)]))], dyW cyI Ad D]) H := hP
  have hD : va_D A9 (cat [[(h, .inr (5, [.ref (Ad 0), .ref (At 0), .ref (As 0), .ref (Ac 0), .ref (L 6 0)]))], dyW cyI Ad D]) := hD
  refine lv_if_ne (tgt := 26) hx hb dX5_removeDoorstep_13 (by decide) (fun c_13 => ?_) (fun c_13 => ?_)
  · have c_13 : (dHas D.2.2.2.2.2.1 (nI (k)) && !dHO D) = true := bI_nz.mp c_13
    rw [dHas_in hk hn, ho] at c_13; cases c_13
  · have c_13 : (dHas D.2.2.2.2.2.1 (nI (k)) && !dHO D) = false := bI_z.mp c_13
    have hP : va_P G vwCl (cat [[(h, .inr (5, [.ref (Ad 0), .ref (At 0), .ref (As 0), .ref (Ac 0), .ref (L 6 0)]))], dyW cyI Ad D]) _ := hP
    have hD : va_D A9 (cat [[(h, .inr (5, [.ref (Ad 0), .ref (At 0), .ref (As 0), .ref (Ac 0), .ref (L 6 0)]))], dyW cyI Ad D]) := hD
    exact gThrow (E := xIS) (text := "there is a handover") (ik := 48) (is := 70) (ic := 52) hx hb htr hown (by decide) (by decide +kernel) (by decide) (hts (.classLink RX5 48 xIS) (by decide +kernel)) (hts (.initialized xIS) (by decide +kernel)) (fun w h9 => hts w (List.mem_cons_of_mem _ (List.mem_append_left _ (List.mem_append_right _ h9)))) xb_IS xo_IS hX hK hP hD hS hl.1 hml dX5_removeDoorstep_16 dX5_removeDoorstep_19 dX5_removeDoorstep_20 dX5_removeDoorstep_22 dX5_removeDoorstep_25 htab hlocks rfl ⟨by decide, by decide, Nat.le_refl _, Nat.le_refl _⟩
abbrev rx_X5_setPints : Room := { frames := 7, cells := 1, slots := 6, locals := 103 }
set_option maxHeartbeats 4000000 in
set_option maxRecDepth 100000 in
theorem x_X5_setPints_IO (l : Launch) (G : va_G) (cyI cyO : ClassId) (h : Nat) (Ad At As Ac : Nat → Nat) (L : Nat → Nat → Nat) (D : DS) (hn : D.2.2.2.2.2.1 ≤ 20) (x : Int32) (hx9 : dHas D.2.2.2.2.2.1 x = false) (w : Int32) (htr : l.stackTraces = false) : CX l G (TY cyI cyO) yX5_setPints wsX5_setPints rx_X5_setPints [.ref (h), .int (x), .int (w)] [[(h, .inr (5, [.ref (Ad 0), .ref (At 0), .ref (As 0), .ref (Ac 0), .ref (L 6 0)]))], dyW cyI Ad D] xIO := by
  refine wk_X (cc := cX5_setPints) (maxL := 3) (ret := (some .int)) (by decide) rfl (Nat.le_of_ble_eq_true rfl) ?_
  intro p9 e9 s9 m9 b9 t9 c9 A9 ls hx hb hts hown hlocks hml hK hA hD hP hl hS hX htab
  have hl : lv_has ls 3 [(0, .ref (h)), (1, .int (x)), (2, .int (w))] := hl
  have hinX5 : ∀ w ∈ wsX50, w ∈ wsX5_setPints := by decide +kernel
  have hf10 := hts (.fieldLink RX5 10 "DoorstepRounds" "dairy" "LDoorstepRounds$Dairy;") (by decide +kernel)
  have hf36 := hts (.fieldLink RX5 36 "DoorstepRounds" "history" "LDoorstepRounds$History;") (by decide +kernel)
  refine lv_aload_n hx hb dX5_setPints_0 rfl (lv_at hl 0 rfl) ?_
  refine lv_iload_n hx hb dX5_setPints_1 rfl (lv_at hl 1 rfl) ?_
  refine gXV (gs := [[(h, .inr (5, [.ref (Ad 0), .ref (At 0), .ref (As 0), .ref (Ac 0), .ref (L 6 0)]))], dyW cyI Ad D]) (As := [.int (x)]) (rest := []) ⟨hx, hb, hml, hown, hts⟩ (x_X5_checkDoorstep l G cyI cyO h Ad At As Ac L D hn x hx9 htr) (cwV 1 hts gX5_setPints_X5_checkDoorstep rfl rfl rfl (by decide +kernel) ⟨Nat.le_of_ble_eq_true rfl, Nat.le_of_ble_eq_true rfl⟩) hK hX hP hD hS hA [0, 1] rfl rfl 0 5 rfl rfl rfl hl.1 rfl (Nat.le_of_ble_eq_true rfl) dX5_setPints_2 ⟨Nat.le_refl _, Nat.le_refl _⟩ (fun ce9 q9 H locs hP hD hS hce hcv hcl => ?_)
  have hP : va_P G vwCl (cat [[(h, .inr (5, [.ref (Ad 0), .ref (At 0), .ref (As 0), .ref (Ac 0), .ref (L 6 0)]))], dyW cyI Ad D]) _ := hP
  have hD : va_D A9 (cat [[(h, .inr (5, [.ref (Ad 0), .ref (At 0), .ref (As 0), .ref (Ac 0), .ref (L 6 0)]))], dyW cyI Ad D]) := hD
  exact gX_out htab hlocks hK hP hD hS hce hcv hcl
set_option maxHeartbeats 4000000 in
set_option maxRecDepth 100000 in
theorem x_X5_setPints_IA (l : Launch) (G : va_G) (cyI cyO : ClassId) (h : Nat) (Ad At As Ac : Nat → Nat) (L : Nat → Nat → Nat) (D : DS) (hn : D.2.2.2.2.2.1 ≤ 20) (k : Nat) (hk : k < D.2.2.2.2.2.1) (x : Int32) (hx9 : isDig x 1 9 = false) (htr : l.stackTraces = false) : CX l G (TY cyI cyO) yX5_setPints wsX5_setPints rx_X5_setPints [.ref (h), .int (nI (k)), .int (x)] [[(h, .inr (5, [.ref (Ad 0), .ref (At 0), .ref (As 0), .ref (Ac 0), .ref (L 6 0)]))], dyW cyI Ad D] xIA := by
  refine wk_X (cc := cX5_setPints) (maxL := 3) (ret := (some .int)) (by decide) rfl (Nat.le_of_ble_eq_true rfl) ?_
  intro p9 e9 s9 m9 b9 t9 c9 A9 ls hx hb hts hown hlocks hml hK hA hD hP hl hS hX htab
  have hl : lv_has ls 3 [(0, .ref (h)), (1, .int (nI (k))), (2, .int (x))] := hl
  have hinX5 : ∀ w ∈ wsX50, w ∈ wsX5_setPints := by decide +kernel
  have hf10 := hts (.fieldLink RX5 10 "DoorstepRounds" "dairy" "LDoorstepRounds$Dairy;") (by decide +kernel)
  have hf36 := hts (.fieldLink RX5 36 "DoorstepRounds" "history" "LDoorstepRounds$History;") (by decide +kernel)
  refine lv_aload_n hx hb dX5_setPints_0 rfl (lv_at hl 0 rfl) ?_
  refine lv_iload_n hx hb dX5_setPints_1 rfl (lv_at hl 1 rfl) ?_
  refine gVv (gs := [[(h, .inr (5, [.ref (Ad 0), .ref (At 0), .ref (As 0), .ref (Ac 0), .ref (L 6 0)]))], dyW cyI Ad D]) (As := [.int (nI (k))]) (rest := []) ⟨hx, hb, hml, hown, hts⟩ (c_X5_checkDoorstep l G cyI cyO h Ad At As Ac L D (by omega) k (by omega)) (cwV 1 hts gX5_setPints_X5_checkDoorstep rfl rfl rfl (by decide +kernel) ⟨Nat.le_of_ble_eq_true rfl, Nat.le_of_ble_eq_true rfl⟩) hK hP hD hS hA [0, 1] rfl rfl rfl 0 5 rfl rfl rfl hl.1 rfl (Nat.le_of_ble_eq_true rfl) dX5_setPints_2 ⟨Nat.zero_le _, Nat.zero_le _⟩ (fun H locs hP hD hS => ?_)
  have hP : va_P G vwCl (cat [[(h, .inr (5, [.ref (Ad 0), .ref (At 0), .ref (As 0), .ref (Ac 0), .ref (L 6 0)]))], dyW cyI Ad D]) H := hP
  have hD : va_D A9 (cat [[(h, .inr (5, [.ref (Ad 0), .ref (At 0), .ref (As 0), .ref (Ac 0), .ref (L 6 0)]))], dyW cyI Ad D]) := hD
  refine lv_iload_n hx hb dX5_setPints_5 rfl (lv_at hl 2 rfl) ?_
  refine gXS (gs := [[(h, .inr (5, [.ref (Ad 0), .ref (At 0), .ref (As 0), .ref (Ac 0), .ref (L 6 0)]))], dyW cyI Ad D]) (As := [.int (x)]) (rest := []) ⟨hx, hb, hml, hown, hts⟩ (x_X5_checkPints l G cyI cyO x hx9 htr) (va_cwS 1 hts gX5_setPints_X5_checkPints rfl rfl rfl (by decide +kernel) ⟨Nat.le_of_ble_eq_true rfl, Nat.le_of_ble_eq_true rfl⟩) hK hX hP hD hS hA [] rfl rfl rfl hl.1 rfl (Nat.le_of_ble_eq_true rfl) dX5_setPints_6 ⟨Nat.le_refl _, Nat.le_refl _⟩ (fun ce9 q9 H locs hP hD hS hce hcv hcl => ?_)
  have hP : va_P G vwCl (cat [[(h, .inr (5, [.ref (Ad 0), .ref (At 0), .ref (As 0), .ref (Ac 0), .ref (L 6 0)]))], dyW cyI Ad D]) _ := hP
  have hD : va_D A9 (cat [[(h, .inr (5, [.ref (Ad 0), .ref (At 0), .ref (As 0), .ref (Ac 0), .ref (L 6 0)]))], dyW cyI Ad D]) := hD
  exact gX_out htab hlocks hK hP hD hS hce hcv hcl
abbrev rx_X5_come : Room := { frames := 7, cells := 1, slots := 6, locals := 102 }
set_option maxHeartbeats 4000000 in
set_option maxRecDepth 100000 in
theorem x_X5_come_IO (l : Launch) (G : va_G) (cyI cyO : ClassId) (h : Nat) (Ad At As Ac : Nat → Nat) (L : Nat → Nat → Nat) (D : DS) (x : Int32) (hx9 : isDig x 0 5 = false) (htr : l.stackTraces = false) : CX l G (TY cyI cyO) yX5_come wsX5_come rx_X5_come [.ref (h), .int (x)] [[(h, .inr (5, [.ref (Ad 0), .ref (At 0), .ref (As 0), .ref (Ac 0), .ref (L 6 0)]))], dyW cyI Ad D] xIO := by
  refine wk_X (cc := cX5_come) (maxL := 2) (ret := (some .int)) (by decide) rfl (Nat.le_of_ble_eq_true rfl) ?_
  intro p9 e9 s9 m9 b9 t9 c9 A9 ls hx hb hts hown hlocks hml hK hA hD hP hl hS hX htab
  have hl : lv_has ls 2 [(0, .ref (h)), (1, .int (x))] := hl
  have hinX5 : ∀ w ∈ wsX50, w ∈ wsX5_come := by decide +kernel
  have hf10 := hts (.fieldLink RX5 10 "DoorstepRounds" "dairy" "LDoorstepRounds$Dairy;") (by decide +kernel)
  have hf36 := hts (.fieldLink RX5 36 "DoorstepRounds" "history" "LDoorstepRounds$History;") (by decide +kernel)
  refine lv_iload_n hx hb dX5_come_0 rfl (lv_at hl 1 rfl) ?_
  refine gXS (gs := [[(h, .inr (5, [.ref (Ad 0), .ref (At 0), .ref (As 0), .ref (Ac 0), .ref (L 6 0)]))], dyW cyI Ad D]) (As := [.int (x)]) (rest := []) ⟨hx, hb, hml, hown, hts⟩ (x_X5_checkMilkman l G cyI cyO x hx9 htr) (va_cwS 1 hts gX5_come_X5_checkMilkman rfl rfl rfl (by decide +kernel) ⟨Nat.le_of_ble_eq_true rfl, Nat.le_of_ble_eq_true rfl⟩) hK hX hP hD hS hA [] rfl rfl rfl hl.1 rfl (Nat.le_of_ble_eq_true rfl) dX5_come_1 ⟨Nat.le_refl _, Nat.le_refl _⟩ (fun ce9 q9 H locs hP hD hS hce hcv hcl => ?_)
  have hP : va_P G vwCl (cat [[(h, .inr (5, [.ref (Ad 0), .ref (At 0), .ref (As 0), .ref (Ac 0), .ref (L 6 0)]))], dyW cyI Ad D]) _ := hP
  have hD : va_D A9 (cat [[(h, .inr (5, [.ref (Ad 0), .ref (At 0), .ref (As 0), .ref (Ac 0), .ref (L 6 0)]))], dyW cyI Ad D]) := hD
  exact gX_out htab hlocks hK hP hD hS hce hcv hcl
set_option maxHeartbeats 4000000 in
set_option maxRecDepth 100000 in
theorem x_X5_come_IS (l : Launch) (G : va_G) (cyI cyO : ClassId) (h : Nat) (Ad At As Ac : Nat → Nat) (L : Nat → Nat → Nat) (D : DS) (k : Nat) (hk : k < 6) (hm : (!dHO D && !decide (D.2.2.1 k = 1)) = false) (htr : l.stackTraces = false) : CX l G (TY cyI cyO) yX5_come wsX5_come rx_X5_come [.ref (h), .int (nI (k))] [[(h, .inr (5, [.ref (Ad 0), .ref (At 0), .ref (As 0), .ref (Ac 0), .ref (L 6 0)]))], dyW cyI Ad D] xIS := by
  refine wk_X (cc := cX5_come) (maxL := 2) (ret := (some .int)) (by decide) rfl (Nat.le_of_ble_eq_true rfl) ?_
  intro p9 e9 s9 m9 b9 t9 c9 A9 ls hx hb hts hown hlocks hml hK hA hD hP hl hS hX htab
  have hl : lv_has ls 2 [(0, .ref (h)), (1, .int (nI (k)))] := hl
  have hinX5 : ∀ w ∈ wsX50, w ∈ wsX5_come := by decide +kernel
  have hf10 := hts (.fieldLink RX5 10 "DoorstepRounds" "dairy" "LDoorstepRounds$Dairy;") (by decide +kernel)
  have hf36 := hts (.fieldLink RX5 36 "DoorstepRounds" "history" "LDoorstepRounds$History;") (by decide +kernel)
  refine lv_iload_n hx hb dX5_come_0 rfl (lv_at hl 1 rfl) ?_
  refine gSv (gs := [[(h, .inr (5, [.ref (Ad 0), .ref (At 0), .ref (As 0), .ref (Ac 0), .ref (L 6 0)]))], dyW cyI Ad D]) (As := [.int (nI (k))]) (rest := []) ⟨hx, hb, hml, hown, hts⟩ (c_X5_checkMilkman l G cyI cyO k (by omega)) (va_cwS 1 hts gX5_come_X5_checkMilkman rfl rfl rfl (by decide +kernel) ⟨Nat.le_of_ble_eq_true rfl, Nat.le_of_ble_eq_true rfl⟩) hK hP hD hS hA [] rfl rfl rfl rfl hl.1 rfl (Nat.le_of_ble_eq_true rfl) dX5_come_1 ⟨Nat.zero_le _, Nat.zero_le _⟩ (fun H locs hP hD hS => ?_)
  have hP : va_P G vwCl (cat [[(h, .inr (5, [.ref (Ad 0), .ref (At 0), .ref (As 0), .ref (Ac 0), .ref (L 6 0)]))], dyW cyI Ad D]) H := hP
  have hD : va_D A9 (cat [[(h, .inr (5, [.ref (Ad 0), .ref (At 0), .ref (As 0), .ref (Ac 0), .ref (L 6 0)]))], dyW cyI Ad D]) := hD
  refine lv_aload_n hx hb dX5_come_4 rfl (lv_at hl 0 rfl) ?_
  refine va_get (v := .ref (Ad 0)) (C := RX5) (T := TX5) (N := 5) hx hb hts hinX5 hown hK hP 0 rfl rfl 0 (by decide) hf10 (fun _ h9 => h9) rfl dX5_come_5 ?_
  refine lv_iload_n hx hb dX5_come_8 rfl (lv_at hl 1 rfl) ?_
  refine gVi (gs := [[(h, .inr (5, [.ref (Ad 0), .ref (At 0), .ref (As 0), .ref (Ac 0), .ref (L 6 0)]))], dyW cyI Ad D]) (As := [.int (nI (k))]) (rest := []) ⟨hx, hb, hml, hown, hts⟩ (c_X1_mayCome l G cyI cyO Ad D k (by omega)) (cwV 1 hts gX5_come_X1_mayCome rfl rfl rfl (by decide +kernel) ⟨Nat.le_of_ble_eq_true rfl, Nat.le_of_ble_eq_true rfl⟩) hK hP hD hS hA [1] rfl rfl rfl 0 1 rfl rfl rfl hl.1 rfl (Nat.le_of_ble_eq_true rfl) dX5_come_9 ⟨Nat.zero_le _, Nat.zero_le _⟩ (fun H locs hP hD hS => ?_)
  have hP : va_P G vwCl (cat [[(h, .inr (5, [.ref (Ad 0), .ref (At 0), .ref (As 0), .ref (Ac 0), .ref (L 6 0)]))], dyW cyI Ad D]) H := hP
  have hD : va_D A9 (cat [[(h, .inr (5, [.ref (Ad 0), .ref (At 0), .ref (As 0), .ref (Ac 0), .ref (L 6 0)]))], dyW cyI Ad D]) := hD
  refine lv_if_ne (tgt := 25) hx hb dX5_come_12 (by decide) (fun c_12 => ?_) (fun c_12 => ?_)
  · have c_12 : (!dHO D && !decide (D.2.2.1 k = 1)) = true := bI_nz.mp c_12
    rw [hm] at c_12; cases c_12
  · have c_12 : (!dHO D && !decide (D.2.2.1 k = 1)) = false := bI_z.mp c_12
    have hP : va_P G vwCl (cat [[(h, .inr (5, [.ref (Ad 0), .ref (At 0), .ref (As 0), .ref (Ac 0), .ref (L 6 0)]))], dyW cyI Ad D]) _ := hP
    have hD : va_D A9 (cat [[(h, .inr (5, [.ref (Ad 0), .ref (At 0), .ref (As 0), .ref (Ac 0), .ref (L 6 0)]))], dyW cyI Ad D]) := hD
    exact gThrow (E := xIS) (text := "there is a handover, or he is at work") (ik := 48) (is := 85) (ic := 52) hx hb htr hown (by decide) (by decide +kernel) (by decide) (hts (.classLink RX5 48 xIS) (by decide +kernel)) (hts (.initialized xIS) (by decide +kernel)) (fun w h9 => hts w (List.mem_cons_of_mem _ (List.mem_append_left _ (List.mem_append_right _ h9)))) xb_IS xo_IS hX hK hP hD hS hl.1 hml dX5_come_15 dX5_come_18 dX5_come_19 dX5_come_21 dX5_come_24 htab hlocks rfl ⟨by decide, by decide, Nat.le_refl _, Nat.le_refl _⟩
abbrev rx_X5_leave : Room := { frames := 7, cells := 1, slots := 6, locals := 102 }
set_option maxHeartbeats 4000000 in
set_option maxRecDepth 100000 in
theorem x_X5_leave_IO (l : Launch) (G : va_G) (cyI cyO : ClassId) (h : Nat) (Ad At As Ac : Nat → Nat) (L : Nat → Nat → Nat) (D : DS) (x : Int32) (hx9 : isDig x 0 5 = false) (htr : l.stackTraces = false) : CX l G (TY cyI cyO) yX5_leave wsX5_leave rx_X5_leave [.ref (h), .int (x)] [[(h, .inr (5, [.ref (Ad 0), .ref (At 0), .ref (As 0), .ref (Ac 0), .ref (L 6 0)]))], dyW cyI Ad D] xIO := by
  refine wk_X (cc := cX5_leave) (maxL := 2) (ret := (some .int)) (by decide) rfl (Nat.le_of_ble_eq_true rfl) ?_
  intro p9 e9 s9 m9 b9 t9 c9 A9 ls hx hb hts hown hlocks hml hK hA hD hP hl hS hX htab
  have hl : lv_has ls 2 [(0, .ref (h)), (1, .int (x))] := hl
  have hinX5 : ∀ w ∈ wsX50, w ∈ wsX5_leave := by decide +kernel
  have hf10 := hts (.fieldLink RX5 10 "DoorstepRounds" "dairy" "LDoorstepRounds$Dairy;") (by decide +kernel)
  have hf36 := hts (.fieldLink RX5 36 "DoorstepRounds" "history" "LDoorstepRounds$History;") (by decide +kernel)
  refine lv_iload_n hx hb dX5_leave_0 rfl (lv_at hl 1 rfl) ?_
  refine gXS (gs := [[(h, .inr (5, [.ref (Ad 0), .ref (At 0), .ref (As 0), .ref (Ac 0), .ref (L 6 0)]))], dyW cyI Ad D]) (As := [.int (x)]) (rest := []) ⟨hx, hb, hml, hown, hts⟩ (x_X5_checkMilkman l G cyI cyO x hx9 htr) (va_cwS 1 hts gX5_leave_X5_checkMilkman rfl rfl rfl (by decide +kernel) ⟨Nat.le_of_ble_eq_true rfl, Nat.le_of_ble_eq_true rfl⟩) hK hX hP hD hS hA [] rfl rfl rfl hl.1 rfl (Nat.le_of_ble_eq_true rfl) dX5_leave_1 ⟨Nat.le_refl _, Nat.le_refl _⟩ (fun ce9 q9 H locs hP hD hS hce hcv hcl => ?_)
  have hP : va_P G vwCl (cat [[(h, .inr (5, [.ref (Ad 0), .ref (At 0), .ref (As 0), .ref (Ac 0), .ref (L 6 0)]))], dyW cyI Ad D]) _ := hP
  have hD : va_D A9 (cat [[(h, .inr (5, [.ref (Ad 0), .ref (At 0), .ref (As 0), .ref (Ac 0), .ref (L 6 0)]))], dyW cyI Ad D]) := hD
  exact gX_out htab hlocks hK hP hD hS hce hcv hcl
set_option maxHeartbeats 4000000 in
set_option maxRecDepth 100000 in
theorem x_X5_leave_IS (l : Launch) (G : va_G) (cyI cyO : ClassId) (h : Nat) (Ad At As Ac : Nat → Nat) (L : Nat → Nat → Nat) (D : DS) (k : Nat) (hk : k < 6) (hm : (!dHO D && decide (D.2.2.1 k = 1)) = false) (htr : l.stackTraces = false) : CX l G (TY cyI cyO) yX5_leave wsX5_leave rx_X5_leave [.ref (h), .int (nI (k))] [[(h, .inr (5, [.ref (Ad 0), .ref (At 0), .ref (As 0), .ref (Ac 0), .ref (L 6 0)]))], dyW cyI Ad D] xIS := by
  refine wk_X (cc := cX5_leave) (maxL := 2) (ret := (some .int)) (by decide) rfl (Nat.le_of_ble_eq_true rfl) ?_
  intro p9 e9 s9 m9 b9 t9 c9 A9 ls hx hb hts hown hlocks hml hK hA hD hP hl hS hX htab
  have hl : lv_has ls 2 [(0, .ref (h)), (1, .int (nI (k)))] := hl
  have hinX5 : ∀ w ∈ wsX50, w ∈ wsX5_leave := by decide +kernel
  have hf10 := hts (.fieldLink RX5 10 "DoorstepRounds" "dairy" "LDoorstepRounds$Dairy;") (by decide +kernel)
  have hf36 := hts (.fieldLink RX5 36 "DoorstepRounds" "history" "LDoorstepRounds$History;") (by decide +kernel)
  refine lv_iload_n hx hb dX5_leave_0 rfl (lv_at hl 1 rfl) ?_
  refine gSv (gs := [[(h, .inr (5, [.ref (Ad 0), .ref (At 0), .ref (As 0), .ref (Ac 0), .ref (L 6 0)]))], dyW cyI Ad D]) (As := [.int (nI (k))]) (rest := []) ⟨hx, hb, hml, hown, hts⟩ (c_X5_checkMilkman l G cyI cyO k (by omega)) (va_cwS 1 hts gX5_leave_X5_checkMilkman rfl rfl rfl (by decide +kernel) ⟨Nat.le_of_ble_eq_true rfl, Nat.le_of_ble_eq_true rfl⟩) hK hP hD hS hA [] rfl rfl rfl rfl hl.1 rfl (Nat.le_of_ble_eq_true rfl) dX5_leave_1 ⟨Nat.zero_le _, Nat.zero_le _⟩ (fun H locs hP hD hS => ?_)
  have hP : va_P G vwCl (cat [[(h, .inr (5, [.ref (Ad 0), .ref (At 0), .ref (As 0), .ref (Ac 0), .ref (L 6 0)]))], dyW cyI Ad D]) H := hP
  have hD : va_D A9 (cat [[(h, .inr (5, [.ref (Ad 0), .ref (At 0), .ref (As 0), .ref (Ac 0), .ref (L 6 0)]))], dyW cyI Ad D]) := hD
  refine lv_aload_n hx hb dX5_leave_4 rfl (lv_at hl 0 rfl) ?_
  refine va_get (v := .ref (Ad 0)) (C := RX5) (T := TX5) (N := 5) hx hb hts hinX5 hown hK hP 0 rfl rfl 0 (by decide) hf10 (fun _ h9 => h9) rfl dX5_leave_5 ?_
  refine lv_iload_n hx hb dX5_leave_8 rfl (lv_at hl 1 rfl) ?_
  refine gVi (gs := [[(h, .inr (5, [.ref (Ad 0), .ref (At 0), .ref (As 0), .ref (Ac 0), .ref (L 6 0)]))], dyW cyI Ad D]) (As := [.int (nI (k))]) (rest := []) ⟨hx, hb, hml, hown, hts⟩ (c_X1_mayLeave l G cyI cyO Ad D k (by omega)) (cwV 1 hts gX5_leave_X1_mayLeave rfl rfl rfl (by decide +kernel) ⟨Nat.le_of_ble_eq_true rfl, Nat.le_of_ble_eq_true rfl⟩) hK hP hD hS hA [1] rfl rfl rfl 0 1 rfl rfl rfl hl.1 rfl (Nat.le_of_ble_eq_true rfl) dX5_leave_9 ⟨Nat.zero_le _, Nat.zero_le _⟩ (fun H locs hP hD hS => ?_)
  have hP : va_P G vwCl (cat [[(h, .inr (5, [.ref (Ad 0), .ref (At 0), .ref (As 0), .ref (Ac 0), .ref (L 6 0)]))], dyW cyI Ad D]) H := hP
  have hD : va_D A9 (cat [[(h, .inr (5, [.ref (Ad 0), .ref (At 0), .ref (As 0), .ref (Ac 0), .ref (L 6 0)]))], dyW cyI Ad D]) := hD
  refine lv_if_ne (tgt := 25) hx hb dX5_leave_12 (by decide) (fun c_12 => ?_) (fun c_12 => ?_)
  · have c_12 : (!dHO D && decide (D.2.2.1 k = 1)) = true := bI_nz.mp c_12
    rw [hm] at c_12; cases c_12
  · have c_12 : (!dHO D && decide (D.2.2.1 k = 1)) = false := bI_z.mp c_12
    have hP : va_P G vwCl (cat [[(h, .inr (5, [.ref (Ad 0), .ref (At 0), .ref (As 0), .ref (Ac 0), .ref (L 6 0)]))], dyW cyI Ad D]) _ := hP
    have hD : va_D A9 (cat [[(h, .inr (5, [.ref (Ad 0), .ref (At 0), .ref (As 0), .ref (Ac 0), .ref (L 6 0)]))], dyW cyI Ad D]) := hD
    exact gThrow (E := xIS) (text := "there is a handover, or he is not at work") (ik := 48) (is := 93) (ic := 52) hx hb htr hown (by decide) (by decide +kernel) (by decide) (hts (.classLink RX5 48 xIS) (by decide +kernel)) (hts (.initialized xIS) (by decide +kernel)) (fun w h9 => hts w (List.mem_cons_of_mem _ (List.mem_append_left _ (List.mem_append_right _ h9)))) xb_IS xo_IS hX hK hP hD hS hl.1 hml dX5_leave_15 dX5_leave_18 dX5_leave_19 dX5_leave_21 dX5_leave_24 htab hlocks rfl ⟨by decide, by decide, Nat.le_refl _, Nat.le_refl _⟩
abbrev rx_X5_pints : Room := { frames := 7, cells := 1, slots := 6, locals := 103 }
set_option maxHeartbeats 4000000 in
set_option maxRecDepth 100000 in
theorem x_X5_pints_IO (l : Launch) (G : va_G) (cyI cyO : ClassId) (h : Nat) (Ad At As Ac : Nat → Nat) (L : Nat → Nat → Nat) (D : DS) (hn : D.2.2.2.2.2.1 ≤ 20) (x : Int32) (hx9 : dHas D.2.2.2.2.2.1 x = false) (htr : l.stackTraces = false) : CX l G (TY cyI cyO) yX5_pints wsX5_pints rx_X5_pints [.ref (h), .int (x)] [[(h, .inr (5, [.ref (Ad 0), .ref (At 0), .ref (As 0), .ref (Ac 0), .ref (L 6 0)]))], dyW cyI Ad D] xIO := by
  refine wk_X (cc := cX5_pints) (maxL := 2) (ret := (some .int)) (by decide) rfl (Nat.le_of_ble_eq_true rfl) ?_
  intro p9 e9 s9 m9 b9 t9 c9 A9 ls hx hb hts hown hlocks hml hK hA hD hP hl hS hX htab
  have hl : lv_has ls 2 [(0, .ref (h)), (1, .int (x))] := hl
  have hinX5 : ∀ w ∈ wsX50, w ∈ wsX5_pints := by decide +kernel
  have hf10 := hts (.fieldLink RX5 10 "DoorstepRounds" "dairy" "LDoorstepRounds$Dairy;") (by decide +kernel)
  refine lv_aload_n hx hb dX5_pints_0 rfl (lv_at hl 0 rfl) ?_
  refine lv_iload_n hx hb dX5_pints_1 rfl (lv_at hl 1 rfl) ?_
  refine gXV (gs := [[(h, .inr (5, [.ref (Ad 0), .ref (At 0), .ref (As 0), .ref (Ac 0), .ref (L 6 0)]))], dyW cyI Ad D]) (As := [.int (x)]) (rest := []) ⟨hx, hb, hml, hown, hts⟩ (x_X5_checkDoorstep l G cyI cyO h Ad At As Ac L D hn x hx9 htr) (cwV 1 hts gX5_pints_X5_checkDoorstep rfl rfl rfl (by decide +kernel) ⟨Nat.le_of_ble_eq_true rfl, Nat.le_of_ble_eq_true rfl⟩) hK hX hP hD hS hA [0, 1] rfl rfl 0 5 rfl rfl rfl hl.1 rfl (Nat.le_of_ble_eq_true rfl) dX5_pints_2 ⟨Nat.le_refl _, Nat.le_refl _⟩ (fun ce9 q9 H locs hP hD hS hce hcv hcl => ?_)
  have hP : va_P G vwCl (cat [[(h, .inr (5, [.ref (Ad 0), .ref (At 0), .ref (As 0), .ref (Ac 0), .ref (L 6 0)]))], dyW cyI Ad D]) _ := hP
  have hD : va_D A9 (cat [[(h, .inr (5, [.ref (Ad 0), .ref (At 0), .ref (As 0), .ref (Ac 0), .ref (L 6 0)]))], dyW cyI Ad D]) := hD
  exact gX_out htab hlocks hK hP hD hS hce hcv hcl
abbrev rx_X5_owner : Room := { frames := 7, cells := 1, slots := 6, locals := 103 }
set_option maxHeartbeats 4000000 in
set_option maxRecDepth 100000 in
theorem x_X5_owner_IO (l : Launch) (G : va_G) (cyI cyO : ClassId) (h : Nat) (Ad At As Ac : Nat → Nat) (L : Nat → Nat → Nat) (D : DS) (hn : D.2.2.2.2.2.1 ≤ 20) (x : Int32) (hx9 : dHas D.2.2.2.2.2.1 x = false) (htr : l.stackTraces = false) : CX l G (TY cyI cyO) yX5_owner wsX5_owner rx_X5_owner [.ref (h), .int (x)] [[(h, .inr (5, [.ref (Ad 0), .ref (At 0), .ref (As 0), .ref (Ac 0), .ref (L 6 0)]))], dyW cyI Ad D] xIO := by
  refine wk_X (cc := cX5_owner) (maxL := 2) (ret := (some .int)) (by decide) rfl (Nat.le_of_ble_eq_true rfl) ?_
  intro p9 e9 s9 m9 b9 t9 c9 A9 ls hx hb hts hown hlocks hml hK hA hD hP hl hS hX htab
  have hl : lv_has ls 2 [(0, .ref (h)), (1, .int (x))] := hl
  have hinX5 : ∀ w ∈ wsX50, w ∈ wsX5_owner := by decide +kernel
  have hf10 := hts (.fieldLink RX5 10 "DoorstepRounds" "dairy" "LDoorstepRounds$Dairy;") (by decide +kernel)
  refine lv_aload_n hx hb dX5_owner_0 rfl (lv_at hl 0 rfl) ?_
  refine lv_iload_n hx hb dX5_owner_1 rfl (lv_at hl 1 rfl) ?_
  refine gXV (gs := [[(h, .inr (5, [.ref (Ad 0), .ref (At 0), .ref (As 0), .ref (Ac 0), .ref (L 6 0)]))], dyW cyI Ad D]) (As := [.int (x)]) (rest := []) ⟨hx, hb, hml, hown, hts⟩ (x_X5_checkDoorstep l G cyI cyO h Ad At As Ac L D hn x hx9 htr) (cwV 1 hts gX5_owner_X5_checkDoorstep rfl rfl rfl (by decide +kernel) ⟨Nat.le_of_ble_eq_true rfl, Nat.le_of_ble_eq_true rfl⟩) hK hX hP hD hS hA [0, 1] rfl rfl 0 5 rfl rfl rfl hl.1 rfl (Nat.le_of_ble_eq_true rfl) dX5_owner_2 ⟨Nat.le_refl _, Nat.le_refl _⟩ (fun ce9 q9 H locs hP hD hS hce hcv hcl => ?_)
  have hP : va_P G vwCl (cat [[(h, .inr (5, [.ref (Ad 0), .ref (At 0), .ref (As 0), .ref (Ac 0), .ref (L 6 0)]))], dyW cyI Ad D]) _ := hP
  have hD : va_D A9 (cat [[(h, .inr (5, [.ref (Ad 0), .ref (At 0), .ref (As 0), .ref (Ac 0), .ref (L 6 0)]))], dyW cyI Ad D]) := hD
  exact gX_out htab hlocks hK hP hD hS hce hcv hcl
abbrev rx_X5_planned : Room := { frames := 7, cells := 1, slots := 6, locals := 103 }
set_option maxHeartbeats 4000000 in
set_option maxRecDepth 100000 in
theorem x_X5_planned_IO (l : Launch) (G : va_G) (cyI cyO : ClassId) (h : Nat) (Ad At As Ac : Nat → Nat) (L : Nat → Nat → Nat) (D : DS) (hn : D.2.2.2.2.2.1 ≤ 20) (x : Int32) (hx9 : dHas D.2.2.2.2.2.1 x = false) (htr : l.stackTraces = false) : CX l G (TY cyI cyO) yX5_planned wsX5_planned rx_X5_planned [.ref (h), .int (x)] [[(h, .inr (5, [.ref (Ad 0), .ref (At 0), .ref (As 0), .ref (Ac 0), .ref (L 6 0)]))], dyW cyI Ad D] xIO := by
  refine wk_X (cc := cX5_planned) (maxL := 2) (ret := (some .int)) (by decide) rfl (Nat.le_of_ble_eq_true rfl) ?_
  intro p9 e9 s9 m9 b9 t9 c9 A9 ls hx hb hts hown hlocks hml hK hA hD hP hl hS hX htab
  have hl : lv_has ls 2 [(0, .ref (h)), (1, .int (x))] := hl
  have hinX5 : ∀ w ∈ wsX50, w ∈ wsX5_planned := by decide +kernel
  have hf10 := hts (.fieldLink RX5 10 "DoorstepRounds" "dairy" "LDoorstepRounds$Dairy;") (by decide +kernel)
  refine lv_aload_n hx hb dX5_planned_0 rfl (lv_at hl 0 rfl) ?_
  refine lv_iload_n hx hb dX5_planned_1 rfl (lv_at hl 1 rfl) ?_
  refine gXV (gs := [[(h, .inr (5, [.ref (Ad 0), .ref (At 0), .ref (As 0), .ref (Ac 0), .ref (L 6 0)]))], dyW cyI Ad D]) (As := [.int (x)]) (rest := []) ⟨hx, hb, hml, hown, hts⟩ (x_X5_checkDoorstep l G cyI cyO h Ad At As Ac L D hn x hx9 htr) (cwV 1 hts gX5_planned_X5_checkDoorstep rfl rfl rfl (by decide +kernel) ⟨Nat.le_of_ble_eq_true rfl, Nat.le_of_ble_eq_true rfl⟩) hK hX hP hD hS hA [0, 1] rfl rfl 0 5 rfl rfl rfl hl.1 rfl (Nat.le_of_ble_eq_true rfl) dX5_planned_2 ⟨Nat.le_refl _, Nat.le_refl _⟩ (fun ce9 q9 H locs hP hD hS hce hcv hcl => ?_)
  have hP : va_P G vwCl (cat [[(h, .inr (5, [.ref (Ad 0), .ref (At 0), .ref (As 0), .ref (Ac 0), .ref (L 6 0)]))], dyW cyI Ad D]) _ := hP
  have hD : va_D A9 (cat [[(h, .inr (5, [.ref (Ad 0), .ref (At 0), .ref (As 0), .ref (Ac 0), .ref (L 6 0)]))], dyW cyI Ad D]) := hD
  exact gX_out htab hlocks hK hP hD hS hce hcv hcl
abbrev rx_X5_ifPlanned : Room := { frames := 7, cells := 1, slots := 6, locals := 103 }
set_option maxHeartbeats 4000000 in
set_option maxRecDepth 100000 in
theorem x_X5_ifPlanned_IO (l : Launch) (G : va_G) (cyI cyO : ClassId) (h : Nat) (Ad At As Ac : Nat → Nat) (L : Nat → Nat → Nat) (D : DS) (hn : D.2.2.2.2.2.1 ≤ 20) (x : Int32) (hx9 : dHas D.2.2.2.2.2.1 x = false) (htr : l.stackTraces = false) : CX l G (TY cyI cyO) yX5_ifPlanned wsX5_ifPlanned rx_X5_ifPlanned [.ref (h), .int (x)] [[(h, .inr (5, [.ref (Ad 0), .ref (At 0), .ref (As 0), .ref (Ac 0), .ref (L 6 0)]))], dyW cyI Ad D] xIO := by
  refine wk_X (cc := cX5_ifPlanned) (maxL := 2) (ret := (some .int)) (by decide) rfl (Nat.le_of_ble_eq_true rfl) ?_
  intro p9 e9 s9 m9 b9 t9 c9 A9 ls hx hb hts hown hlocks hml hK hA hD hP hl hS hX htab
  have hl : lv_has ls 2 [(0, .ref (h)), (1, .int (x))] := hl
  have hinX5 : ∀ w ∈ wsX50, w ∈ wsX5_ifPlanned := by decide +kernel
  have hf10 := hts (.fieldLink RX5 10 "DoorstepRounds" "dairy" "LDoorstepRounds$Dairy;") (by decide +kernel)
  have hf22 := hts (.fieldLink RX5 22 "DoorstepRounds" "sharing" "LDoorstepRounds$Sharing;") (by decide +kernel)
  refine lv_aload_n hx hb dX5_ifPlanned_0 rfl (lv_at hl 0 rfl) ?_
  refine lv_iload_n hx hb dX5_ifPlanned_1 rfl (lv_at hl 1 rfl) ?_
  refine gXV (gs := [[(h, .inr (5, [.ref (Ad 0), .ref (At 0), .ref (As 0), .ref (Ac 0), .ref (L 6 0)]))], dyW cyI Ad D]) (As := [.int (x)]) (rest := []) ⟨hx, hb, hml, hown, hts⟩ (x_X5_checkDoorstep l G cyI cyO h Ad At As Ac L D hn x hx9 htr) (cwV 1 hts gX5_ifPlanned_X5_checkDoorstep rfl rfl rfl (by decide +kernel) ⟨Nat.le_of_ble_eq_true rfl, Nat.le_of_ble_eq_true rfl⟩) hK hX hP hD hS hA [0, 1] rfl rfl 0 5 rfl rfl rfl hl.1 rfl (Nat.le_of_ble_eq_true rfl) dX5_ifPlanned_2 ⟨Nat.le_refl _, Nat.le_refl _⟩ (fun ce9 q9 H locs hP hD hS hce hcv hcl => ?_)
  have hP : va_P G vwCl (cat [[(h, .inr (5, [.ref (Ad 0), .ref (At 0), .ref (As 0), .ref (Ac 0), .ref (L 6 0)]))], dyW cyI Ad D]) _ := hP
  have hD : va_D A9 (cat [[(h, .inr (5, [.ref (Ad 0), .ref (At 0), .ref (As 0), .ref (Ac 0), .ref (L 6 0)]))], dyW cyI Ad D]) := hD
  exact gX_out htab hlocks hK hP hD hS hce hcv hcl
abbrev rx_X5_reason : Room := { frames := 7, cells := 1, slots := 6, locals := 103 }
set_option maxHeartbeats 4000000 in
set_option maxRecDepth 100000 in
theorem x_X5_reason_IO (l : Launch) (G : va_G) (cyI cyO : ClassId) (h : Nat) (Ad At As Ac : Nat → Nat) (L : Nat → Nat → Nat) (D : DS) (hn : D.2.2.2.2.2.1 ≤ 20) (x : Int32) (hx9 : dHas D.2.2.2.2.2.1 x = false) (htr : l.stackTraces = false) : CX l G (TY cyI cyO) yX5_reason wsX5_reason rx_X5_reason [.ref (h), .int (x)] [[(h, .inr (5, [.ref (Ad 0), .ref (At 0), .ref (As 0), .ref (Ac 0), .ref (L 6 0)]))], dyW cyI Ad D] xIO := by
  refine wk_X (cc := cX5_reason) (maxL := 2) (ret := (some .int)) (by decide) rfl (Nat.le_of_ble_eq_true rfl) ?_
  intro p9 e9 s9 m9 b9 t9 c9 A9 ls hx hb hts hown hlocks hml hK hA hD hP hl hS hX htab
  have hl : lv_has ls 2 [(0, .ref (h)), (1, .int (x))] := hl
  have hinX5 : ∀ w ∈ wsX50, w ∈ wsX5_reason := by decide +kernel
  have hf10 := hts (.fieldLink RX5 10 "DoorstepRounds" "dairy" "LDoorstepRounds$Dairy;") (by decide +kernel)
  have hf22 := hts (.fieldLink RX5 22 "DoorstepRounds" "sharing" "LDoorstepRounds$Sharing;") (by decide +kernel)
  refine lv_aload_n hx hb dX5_reason_0 rfl (lv_at hl 0 rfl) ?_
  refine lv_iload_n hx hb dX5_reason_1 rfl (lv_at hl 1 rfl) ?_
  refine gXV (gs := [[(h, .inr (5, [.ref (Ad 0), .ref (At 0), .ref (As 0), .ref (Ac 0), .ref (L 6 0)]))], dyW cyI Ad D]) (As := [.int (x)]) (rest := []) ⟨hx, hb, hml, hown, hts⟩ (x_X5_checkDoorstep l G cyI cyO h Ad At As Ac L D hn x hx9 htr) (cwV 1 hts gX5_reason_X5_checkDoorstep rfl rfl rfl (by decide +kernel) ⟨Nat.le_of_ble_eq_true rfl, Nat.le_of_ble_eq_true rfl⟩) hK hX hP hD hS hA [0, 1] rfl rfl 0 5 rfl rfl rfl hl.1 rfl (Nat.le_of_ble_eq_true rfl) dX5_reason_2 ⟨Nat.le_refl _, Nat.le_refl _⟩ (fun ce9 q9 H locs hP hD hS hce hcv hcl => ?_)
  have hP : va_P G vwCl (cat [[(h, .inr (5, [.ref (Ad 0), .ref (At 0), .ref (As 0), .ref (Ac 0), .ref (L 6 0)]))], dyW cyI Ad D]) _ := hP
  have hD : va_D A9 (cat [[(h, .inr (5, [.ref (Ad 0), .ref (At 0), .ref (As 0), .ref (Ac 0), .ref (L 6 0)]))], dyW cyI Ad D]) := hD
  exact gX_out htab hlocks hK hP hD hS hce hcv hcl
abbrev rx_X5_isAtWork : Room := { frames := 7, cells := 1, slots := 6, locals := 102 }
set_option maxHeartbeats 4000000 in
set_option maxRecDepth 100000 in
theorem x_X5_isAtWork_IO (l : Launch) (G : va_G) (cyI cyO : ClassId) (h : Nat) (Ad At As Ac : Nat → Nat) (L : Nat → Nat → Nat) (D : DS) (x : Int32) (hx9 : isDig x 0 5 = false) (htr : l.stackTraces = false) : CX l G (TY cyI cyO) yX5_isAtWork wsX5_isAtWork rx_X5_isAtWork [.ref (h), .int (x)] [[(h, .inr (5, [.ref (Ad 0), .ref (At 0), .ref (As 0), .ref (Ac 0), .ref (L 6 0)]))], dyW cyI Ad D] xIO := by
  refine wk_X (cc := cX5_isAtWork) (maxL := 2) (ret := (some .boolean)) (by decide) rfl (Nat.le_of_ble_eq_true rfl) ?_
  intro p9 e9 s9 m9 b9 t9 c9 A9 ls hx hb hts hown hlocks hml hK hA hD hP hl hS hX htab
  have hl : lv_has ls 2 [(0, .ref (h)), (1, .int (x))] := hl
  have hinX5 : ∀ w ∈ wsX50, w ∈ wsX5_isAtWork := by decide +kernel
  have hf10 := hts (.fieldLink RX5 10 "DoorstepRounds" "dairy" "LDoorstepRounds$Dairy;") (by decide +kernel)
  refine lv_iload_n hx hb dX5_isAtWork_0 rfl (lv_at hl 1 rfl) ?_
  refine gXS (gs := [[(h, .inr (5, [.ref (Ad 0), .ref (At 0), .ref (As 0), .ref (Ac 0), .ref (L 6 0)]))], dyW cyI Ad D]) (As := [.int (x)]) (rest := []) ⟨hx, hb, hml, hown, hts⟩ (x_X5_checkMilkman l G cyI cyO x hx9 htr) (va_cwS 1 hts gX5_isAtWork_X5_checkMilkman rfl rfl rfl (by decide +kernel) ⟨Nat.le_of_ble_eq_true rfl, Nat.le_of_ble_eq_true rfl⟩) hK hX hP hD hS hA [] rfl rfl rfl hl.1 rfl (Nat.le_of_ble_eq_true rfl) dX5_isAtWork_1 ⟨Nat.le_refl _, Nat.le_refl _⟩ (fun ce9 q9 H locs hP hD hS hce hcv hcl => ?_)
  have hP : va_P G vwCl (cat [[(h, .inr (5, [.ref (Ad 0), .ref (At 0), .ref (As 0), .ref (Ac 0), .ref (L 6 0)]))], dyW cyI Ad D]) _ := hP
  have hD : va_D A9 (cat [[(h, .inr (5, [.ref (Ad 0), .ref (At 0), .ref (As 0), .ref (Ac 0), .ref (L 6 0)]))], dyW cyI Ad D]) := hD
  exact gX_out htab hlocks hK hP hD hS hce hcv hcl
abbrev rx_X5_size : Room := { frames := 7, cells := 1, slots := 6, locals := 102 }
set_option maxHeartbeats 4000000 in
set_option maxRecDepth 100000 in
theorem x_X5_size_IO (l : Launch) (G : va_G) (cyI cyO : ClassId) (h : Nat) (Ad At As Ac : Nat → Nat) (L : Nat → Nat → Nat) (D : DS) (x : Int32) (hx9 : isDig x 0 5 = false) (htr : l.stackTraces = false) : CX l G (TY cyI cyO) yX5_size wsX5_size rx_X5_size [.ref (h), .int (x)] [[(h, .inr (5, [.ref (Ad 0), .ref (At 0), .ref (As 0), .ref (Ac 0), .ref (L 6 0)]))], dyW cyI Ad D] xIO := by
  refine wk_X (cc := cX5_size) (maxL := 2) (ret := (some .int)) (by decide) rfl (Nat.le_of_ble_eq_true rfl) ?_
  intro p9 e9 s9 m9 b9 t9 c9 A9 ls hx hb hts hown hlocks hml hK hA hD hP hl hS hX htab
  have hl : lv_has ls 2 [(0, .ref (h)), (1, .int (x))] := hl
  have hinX5 : ∀ w ∈ wsX50, w ∈ wsX5_size := by decide +kernel
  have hf10 := hts (.fieldLink RX5 10 "DoorstepRounds" "dairy" "LDoorstepRounds$Dairy;") (by decide +kernel)
  refine lv_iload_n hx hb dX5_size_0 rfl (lv_at hl 1 rfl) ?_
  refine gXS (gs := [[(h, .inr (5, [.ref (Ad 0), .ref (At 0), .ref (As 0), .ref (Ac 0), .ref (L 6 0)]))], dyW cyI Ad D]) (As := [.int (x)]) (rest := []) ⟨hx, hb, hml, hown, hts⟩ (x_X5_checkMilkman l G cyI cyO x hx9 htr) (va_cwS 1 hts gX5_size_X5_checkMilkman rfl rfl rfl (by decide +kernel) ⟨Nat.le_of_ble_eq_true rfl, Nat.le_of_ble_eq_true rfl⟩) hK hX hP hD hS hA [] rfl rfl rfl hl.1 rfl (Nat.le_of_ble_eq_true rfl) dX5_size_1 ⟨Nat.le_refl _, Nat.le_refl _⟩ (fun ce9 q9 H locs hP hD hS hce hcv hcl => ?_)
  have hP : va_P G vwCl (cat [[(h, .inr (5, [.ref (Ad 0), .ref (At 0), .ref (As 0), .ref (Ac 0), .ref (L 6 0)]))], dyW cyI Ad D]) _ := hP
  have hD : va_D A9 (cat [[(h, .inr (5, [.ref (Ad 0), .ref (At 0), .ref (As 0), .ref (Ac 0), .ref (L 6 0)]))], dyW cyI Ad D]) := hD
  exact gX_out htab hlocks hK hP hD hS hce hcv hcl
abbrev rx_X5_load : Room := { frames := 7, cells := 1, slots := 6, locals := 102 }
set_option maxHeartbeats 4000000 in
set_option maxRecDepth 100000 in
theorem x_X5_load_IO (l : Launch) (G : va_G) (cyI cyO : ClassId) (h : Nat) (Ad At As Ac : Nat → Nat) (L : Nat → Nat → Nat) (D : DS) (x : Int32) (hx9 : isDig x 0 5 = false) (htr : l.stackTraces = false) : CX l G (TY cyI cyO) yX5_load wsX5_load rx_X5_load [.ref (h), .int (x)] [[(h, .inr (5, [.ref (Ad 0), .ref (At 0), .ref (As 0), .ref (Ac 0), .ref (L 6 0)]))], dyW cyI Ad D] xIO := by
  refine wk_X (cc := cX5_load) (maxL := 2) (ret := (some .int)) (by decide) rfl (Nat.le_of_ble_eq_true rfl) ?_
  intro p9 e9 s9 m9 b9 t9 c9 A9 ls hx hb hts hown hlocks hml hK hA hD hP hl hS hX htab
  have hl : lv_has ls 2 [(0, .ref (h)), (1, .int (x))] := hl
  have hinX5 : ∀ w ∈ wsX50, w ∈ wsX5_load := by decide +kernel
  have hf10 := hts (.fieldLink RX5 10 "DoorstepRounds" "dairy" "LDoorstepRounds$Dairy;") (by decide +kernel)
  refine lv_iload_n hx hb dX5_load_0 rfl (lv_at hl 1 rfl) ?_
  refine gXS (gs := [[(h, .inr (5, [.ref (Ad 0), .ref (At 0), .ref (As 0), .ref (Ac 0), .ref (L 6 0)]))], dyW cyI Ad D]) (As := [.int (x)]) (rest := []) ⟨hx, hb, hml, hown, hts⟩ (x_X5_checkMilkman l G cyI cyO x hx9 htr) (va_cwS 1 hts gX5_load_X5_checkMilkman rfl rfl rfl (by decide +kernel) ⟨Nat.le_of_ble_eq_true rfl, Nat.le_of_ble_eq_true rfl⟩) hK hX hP hD hS hA [] rfl rfl rfl hl.1 rfl (Nat.le_of_ble_eq_true rfl) dX5_load_1 ⟨Nat.le_refl _, Nat.le_refl _⟩ (fun ce9 q9 H locs hP hD hS hce hcv hcl => ?_)
  have hP : va_P G vwCl (cat [[(h, .inr (5, [.ref (Ad 0), .ref (At 0), .ref (As 0), .ref (Ac 0), .ref (L 6 0)]))], dyW cyI Ad D]) _ := hP
  have hD : va_D A9 (cat [[(h, .inr (5, [.ref (Ad 0), .ref (At 0), .ref (As 0), .ref (Ac 0), .ref (L 6 0)]))], dyW cyI Ad D]) := hD
  exact gX_out htab hlocks hK hP hD hS hce hcv hcl
abbrev rx_X5_changesIf : Room := { frames := 7, cells := 1, slots := 6, locals := 113 }
set_option maxHeartbeats 4000000 in
set_option maxRecDepth 100000 in
theorem x_X5_changesIf_IO (l : Launch) (G : va_G) (cyI cyO : ClassId) (h : Nat) (Ad At As Ac : Nat → Nat) (L : Nat → Nat → Nat) (D : DS) (x : Int32) (hx9 : isDig x 0 5 = false) (htr : l.stackTraces = false) : CX l G (TY cyI cyO) yX5_changesIf wsX5_changesIf rx_X5_changesIf [.ref (h), .int (x)] [[(h, .inr (5, [.ref (Ad 0), .ref (At 0), .ref (As 0), .ref (Ac 0), .ref (L 6 0)]))], dyW cyI Ad D] xIO := by
  refine wk_X (cc := cX5_changesIf) (maxL := 2) (ret := (some .int)) (by decide) rfl (Nat.le_of_ble_eq_true rfl) ?_
  intro p9 e9 s9 m9 b9 t9 c9 A9 ls hx hb hts hown hlocks hml hK hA hD hP hl hS hX htab
  have hl : lv_has ls 2 [(0, .ref (h)), (1, .int (x))] := hl
  refine lv_iload_n hx hb dX5_changesIf_0 rfl (lv_at hl 1 rfl) ?_
  refine gXS (gs := [[(h, .inr (5, [.ref (Ad 0), .ref (At 0), .ref (As 0), .ref (Ac 0), .ref (L 6 0)]))], dyW cyI Ad D]) (As := [.int (x)]) (rest := []) ⟨hx, hb, hml, hown, hts⟩ (x_X5_checkMilkman l G cyI cyO x hx9 htr) (va_cwS 1 hts gX5_changesIf_X5_checkMilkman rfl rfl rfl (by decide +kernel) ⟨Nat.le_of_ble_eq_true rfl, Nat.le_of_ble_eq_true rfl⟩) hK hX hP hD hS hA [] rfl rfl rfl hl.1 rfl (Nat.le_of_ble_eq_true rfl) dX5_changesIf_1 ⟨Nat.le_refl _, Nat.le_refl _⟩ (fun ce9 q9 H locs hP hD hS hce hcv hcl => ?_)
  have hP : va_P G vwCl (cat [[(h, .inr (5, [.ref (Ad 0), .ref (At 0), .ref (As 0), .ref (Ac 0), .ref (L 6 0)]))], dyW cyI Ad D]) _ := hP
  have hD : va_D A9 (cat [[(h, .inr (5, [.ref (Ad 0), .ref (At 0), .ref (As 0), .ref (Ac 0), .ref (L 6 0)]))], dyW cyI Ad D]) := hD
  exact gX_out htab hlocks hK hP hD hS hce hcv hcl
abbrev rx_X5_plan : Room := { frames := 6, cells := 1, slots := 6, locals := 113 }
set_option maxHeartbeats 4000000 in
set_option maxRecDepth 100000 in
theorem x_X5_plan_IS (l : Launch) (G : va_G) (cyI cyO : ClassId) (h : Nat) (Ad At As Ac : Nat → Nat) (L : Nat → Nat → Nat) (D : DS) (hm : (!dHO D && decide (0 < cW D.2.2.1)) = false) (htr : l.stackTraces = false) : CX l G (TY cyI cyO) yX5_plan wsX5_plan rx_X5_plan [.ref (h)] [[(h, .inr (5, [.ref (Ad 0), .ref (At 0), .ref (As 0), .ref (Ac 0), .ref (L 6 0)]))], dyW cyI Ad D] xIS := by
  refine wk_X (cc := cX5_plan) (maxL := 1) (ret := (some .int)) (by decide) rfl (Nat.le_of_ble_eq_true rfl) ?_
  intro p9 e9 s9 m9 b9 t9 c9 A9 ls hx hb hts hown hlocks hml hK hA hD hP hl hS hX htab
  have hl : lv_has ls 1 [(0, .ref (h))] := hl
  have hinX5 : ∀ w ∈ wsX50, w ∈ wsX5_plan := by decide +kernel
  have hf10 := hts (.fieldLink RX5 10 "DoorstepRounds" "dairy" "LDoorstepRounds$Dairy;") (by decide +kernel)
  have hf36 := hts (.fieldLink RX5 36 "DoorstepRounds" "history" "LDoorstepRounds$History;") (by decide +kernel)
  refine lv_aload_n hx hb dX5_plan_0 rfl (lv_at hl 0 rfl) ?_
  refine va_get (v := .ref (Ad 0)) (C := RX5) (T := TX5) (N := 5) hx hb hts hinX5 hown hK hP 0 rfl rfl 0 (by decide) hf10 (fun _ h9 => h9) rfl dX5_plan_1 ?_
  refine gVi (gs := [[(h, .inr (5, [.ref (Ad 0), .ref (At 0), .ref (As 0), .ref (Ac 0), .ref (L 6 0)]))], dyW cyI Ad D]) (As := []) (rest := []) ⟨hx, hb, hml, hown, hts⟩ (c_X1_mayPlan l G cyI cyO Ad D) (cwV 0 hts gX5_plan_X1_mayPlan rfl rfl rfl (by decide +kernel) ⟨Nat.le_of_ble_eq_true rfl, Nat.le_of_ble_eq_true rfl⟩) hK hP hD hS hA [1] rfl rfl rfl 0 1 rfl rfl rfl hl.1 rfl (Nat.le_of_ble_eq_true rfl) dX5_plan_4 ⟨Nat.zero_le _, Nat.zero_le _⟩ (fun H locs hP hD hS => ?_)
  have hP : va_P G vwCl (cat [[(h, .inr (5, [.ref (Ad 0), .ref (At 0), .ref (As 0), .ref (Ac 0), .ref (L 6 0)]))], dyW cyI Ad D]) H := hP
  have hD : va_D A9 (cat [[(h, .inr (5, [.ref (Ad 0), .ref (At 0), .ref (As 0), .ref (Ac 0), .ref (L 6 0)]))], dyW cyI Ad D]) := hD
  refine lv_if_ne (tgt := 20) hx hb dX5_plan_7 (by decide) (fun c_7 => ?_) (fun c_7 => ?_)
  · have c_7 : (!dHO D && decide (0 < cW D.2.2.1)) = true := bI_nz.mp c_7
    rw [hm] at c_7; cases c_7
  · have c_7 : (!dHO D && decide (0 < cW D.2.2.1)) = false := bI_z.mp c_7
    have hP : va_P G vwCl (cat [[(h, .inr (5, [.ref (Ad 0), .ref (At 0), .ref (As 0), .ref (Ac 0), .ref (L 6 0)]))], dyW cyI Ad D]) _ := hP
    have hD : va_D A9 (cat [[(h, .inr (5, [.ref (Ad 0), .ref (At 0), .ref (As 0), .ref (Ac 0), .ref (L 6 0)]))], dyW cyI Ad D]) := hD
    exact gThrow (E := xIS) (text := "there is a handover, or nobody is at work") (ik := 48) (is := 120) (ic := 52) hx hb htr hown (by decide) (by decide +kernel) (by decide) (hts (.classLink RX5 48 xIS) (by decide +kernel)) (hts (.initialized xIS) (by decide +kernel)) (fun w h9 => hts w (List.mem_cons_of_mem _ (List.mem_append_right _ h9))) xb_IS xo_IS hX hK hP hD hS hl.1 hml dX5_plan_10 dX5_plan_13 dX5_plan_14 dX5_plan_16 dX5_plan_19 htab hlocks rfl ⟨by decide, by decide, Nat.le_refl _, Nat.le_refl _⟩
abbrev rx_X5_handOver : Room := { frames := 6, cells := 1, slots := 6, locals := 86 }
set_option maxHeartbeats 4000000 in
set_option maxRecDepth 100000 in
theorem x_X5_handOver_IS (l : Launch) (G : va_G) (cyI cyO : ClassId) (h : Nat) (Ad At As Ac : Nat → Nat) (L : Nat → Nat → Nat) (D : DS) (hm : dHO D = false) (htr : l.stackTraces = false) : CX l G (TY cyI cyO) yX5_handOver wsX5_handOver rx_X5_handOver [.ref (h)] [[(h, .inr (5, [.ref (Ad 0), .ref (At 0), .ref (As 0), .ref (Ac 0), .ref (L 6 0)]))], dyW cyI Ad D] xIS := by
  refine wk_X (cc := cX5_handOver) (maxL := 1) (ret := (some .int)) (by decide) rfl (Nat.le_of_ble_eq_true rfl) ?_
  intro p9 e9 s9 m9 b9 t9 c9 A9 ls hx hb hts hown hlocks hml hK hA hD hP hl hS hX htab
  have hl : lv_has ls 1 [(0, .ref (h))] := hl
  have hinX5 : ∀ w ∈ wsX50, w ∈ wsX5_handOver := by decide +kernel
  have hf10 := hts (.fieldLink RX5 10 "DoorstepRounds" "dairy" "LDoorstepRounds$Dairy;") (by decide +kernel)
  have hf36 := hts (.fieldLink RX5 36 "DoorstepRounds" "history" "LDoorstepRounds$History;") (by decide +kernel)
  refine lv_aload_n hx hb dX5_handOver_0 rfl (lv_at hl 0 rfl) ?_
  refine va_get (v := .ref (Ad 0)) (C := RX5) (T := TX5) (N := 5) hx hb hts hinX5 hown hK hP 0 rfl rfl 0 (by decide) hf10 (fun _ h9 => h9) rfl dX5_handOver_1 ?_
  refine gVi (gs := [[(h, .inr (5, [.ref (Ad 0), .ref (At 0), .ref (As 0), .ref (Ac 0), .ref (L 6 0)]))], dyW cyI Ad D]) (As := []) (rest := []) ⟨hx, hb, hml, hown, hts⟩ (c_X1_isHandingOver l G cyI cyO Ad D) (cwV 0 hts gX5_handOver_X1_isHandingOver rfl rfl rfl (by decide +kernel) ⟨Nat.le_of_ble_eq_true rfl, Nat.le_of_ble_eq_true rfl⟩) hK hP hD hS hA [1] rfl rfl rfl 0 1 rfl rfl rfl hl.1 rfl (Nat.le_of_ble_eq_true rfl) dX5_handOver_4 ⟨Nat.zero_le _, Nat.zero_le _⟩ (fun H locs hP hD hS => ?_)
  have hP : va_P G vwCl (cat [[(h, .inr (5, [.ref (Ad 0), .ref (At 0), .ref (As 0), .ref (Ac 0), .ref (L 6 0)]))], dyW cyI Ad D]) H := hP
  have hD : va_D A9 (cat [[(h, .inr (5, [.ref (Ad 0), .ref (At 0), .ref (As 0), .ref (Ac 0), .ref (L 6 0)]))], dyW cyI Ad D]) := hD
  refine lv_if_ne (tgt := 20) hx hb dX5_handOver_7 (by decide) (fun c_7 => ?_) (fun c_7 => ?_)
  · have c_7 : (dHO D) = true := bI_nz.mp c_7
    rw [hm] at c_7; cases c_7
  · have c_7 : (dHO D) = false := bI_z.mp c_7
    have hP : va_P G vwCl (cat [[(h, .inr (5, [.ref (Ad 0), .ref (At 0), .ref (As 0), .ref (Ac 0), .ref (L 6 0)]))], dyW cyI Ad D]) _ := hP
    have hD : va_D A9 (cat [[(h, .inr (5, [.ref (Ad 0), .ref (At 0), .ref (As 0), .ref (Ac 0), .ref (L 6 0)]))], dyW cyI Ad D]) := hD
    exact gThrow (E := xIS) (text := "there is no handover") (ik := 48) (is := 128) (ic := 52) hx hb htr hown (by decide) (by decide +kernel) (by decide) (hts (.classLink RX5 48 xIS) (by decide +kernel)) (hts (.initialized xIS) (by decide +kernel)) (fun w h9 => hts w (List.mem_cons_of_mem _ (List.mem_append_right _ h9))) xb_IS xo_IS hX hK hP hD hS hl.1 hml dX5_handOver_10 dX5_handOver_13 dX5_handOver_14 dX5_handOver_16 dX5_handOver_19 htab hlocks rfl ⟨by decide, by decide, Nat.le_refl _, Nat.le_refl _⟩
abbrev rx_X5_callOff : Room := { frames := 6, cells := 1, slots := 6, locals := 86 }
set_option maxHeartbeats 4000000 in
set_option maxRecDepth 100000 in
theorem x_X5_callOff_IS (l : Launch) (G : va_G) (cyI cyO : ClassId) (h : Nat) (Ad At As Ac : Nat → Nat) (L : Nat → Nat → Nat) (D : DS) (hm : dHO D = false) (htr : l.stackTraces = false) : CX l G (TY cyI cyO) yX5_callOff wsX5_callOff rx_X5_callOff [.ref (h)] [[(h, .inr (5, [.ref (Ad 0), .ref (At 0), .ref (As 0), .ref (Ac 0), .ref (L 6 0)]))], dyW cyI Ad D] xIS := by
  refine wk_X (cc := cX5_callOff) (maxL := 1) (ret := (some .int)) (by decide) rfl (Nat.le_of_ble_eq_true rfl) ?_
  intro p9 e9 s9 m9 b9 t9 c9 A9 ls hx hb hts hown hlocks hml hK hA hD hP hl hS hX htab
  have hl : lv_has ls 1 [(0, .ref (h))] := hl
  have hinX5 : ∀ w ∈ wsX50, w ∈ wsX5_callOff := by decide +kernel
  have hf10 := hts (.fieldLink RX5 10 "DoorstepRounds" "dairy" "LDoorstepRounds$Dairy;") (by decide +kernel)
  have hf36 := hts (.fieldLink RX5 36 "DoorstepRounds" "history" "LDoorstepRounds$History;") (by decide +kernel)
  refine lv_aload_n hx hb dX5_callOff_0 rfl (lv_at hl 0 rfl) ?_
  refine va_get (v := .ref (Ad 0)) (C := RX5) (T := TX5) (N := 5) hx hb hts hinX5 hown hK hP 0 rfl rfl 0 (by decide) hf10 (fun _ h9 => h9) rfl dX5_callOff_1 ?_
  refine gVi (gs := [[(h, .inr (5, [.ref (Ad 0), .ref (At 0), .ref (As 0), .ref (Ac 0), .ref (L 6 0)]))], dyW cyI Ad D]) (As := []) (rest := []) ⟨hx, hb, hml, hown, hts⟩ (c_X1_isHandingOver l G cyI cyO Ad D) (cwV 0 hts gX5_callOff_X1_isHandingOver rfl rfl rfl (by decide +kernel) ⟨Nat.le_of_ble_eq_true rfl, Nat.le_of_ble_eq_true rfl⟩) hK hP hD hS hA [1] rfl rfl rfl 0 1 rfl rfl rfl hl.1 rfl (Nat.le_of_ble_eq_true rfl) dX5_callOff_4 ⟨Nat.zero_le _, Nat.zero_le _⟩ (fun H locs hP hD hS => ?_)
  have hP : va_P G vwCl (cat [[(h, .inr (5, [.ref (Ad 0), .ref (At 0), .ref (As 0), .ref (Ac 0), .ref (L 6 0)]))], dyW cyI Ad D]) H := hP
  have hD : va_D A9 (cat [[(h, .inr (5, [.ref (Ad 0), .ref (At 0), .ref (As 0), .ref (Ac 0), .ref (L 6 0)]))], dyW cyI Ad D]) := hD
  refine lv_if_ne (tgt := 20) hx hb dX5_callOff_7 (by decide) (fun c_7 => ?_) (fun c_7 => ?_)
  · have c_7 : (dHO D) = true := bI_nz.mp c_7
    rw [hm] at c_7; cases c_7
  · have c_7 : (dHO D) = false := bI_z.mp c_7
    have hP : va_P G vwCl (cat [[(h, .inr (5, [.ref (Ad 0), .ref (At 0), .ref (As 0), .ref (Ac 0), .ref (L 6 0)]))], dyW cyI Ad D]) _ := hP
    have hD : va_D A9 (cat [[(h, .inr (5, [.ref (Ad 0), .ref (At 0), .ref (As 0), .ref (Ac 0), .ref (L 6 0)]))], dyW cyI Ad D]) := hD
    exact gThrow (E := xIS) (text := "there is no handover") (ik := 48) (is := 128) (ic := 52) hx hb htr hown (by decide) (by decide +kernel) (by decide) (hts (.classLink RX5 48 xIS) (by decide +kernel)) (hts (.initialized xIS) (by decide +kernel)) (fun w h9 => hts w (List.mem_cons_of_mem _ (List.mem_append_right _ h9))) xb_IS xo_IS hX hK hP hD hS hl.1 hml dX5_callOff_10 dX5_callOff_13 dX5_callOff_14 dX5_callOff_16 dX5_callOff_19 htab hlocks rfl ⟨by decide, by decide, Nat.le_refl _, Nat.le_refl _⟩
abbrev rx_X5_undo : Room := { frames := 6, cells := 1, slots := 6, locals := 86 }
set_option maxHeartbeats 4000000 in
set_option maxRecDepth 100000 in
theorem x_X5_undo_IS (l : Launch) (G : va_G) (cyI cyO : ClassId) (h : Nat) (Ad At As Ac : Nat → Nat) (L : Nat → Nat → Nat) (V : HS) (hV : V.1 = 0) (htr : l.stackTraces = false) : CX l G (TY cyI cyO) yX5_undo wsX5_undo rx_X5_undo [.ref (h)] [[(h, .inr (5, [.ref (Ad 0), .ref (At 0), .ref (As 0), .ref (Ac 0), .ref (L 6 0)]))], hiW cyI cyO L V] xIS := by
  refine wk_X (cc := cX5_undo) (maxL := 1) (ret := (some .int)) (by decide) rfl (Nat.le_of_ble_eq_true rfl) ?_
  intro p9 e9 s9 m9 b9 t9 c9 A9 ls hx hb hts hown hlocks hml hK hA hD hP hl hS hX htab
  have hl : lv_has ls 1 [(0, .ref (h))] := hl
  have hinX5 : ∀ w ∈ wsX50, w ∈ wsX5_undo := by decide +kernel
  have hf10 := hts (.fieldLink RX5 10 "DoorstepRounds" "dairy" "LDoorstepRounds$Dairy;") (by decide +kernel)
  have hf36 := hts (.fieldLink RX5 36 "DoorstepRounds" "history" "LDoorstepRounds$History;") (by decide +kernel)
  refine lv_aload_n hx hb dX5_undo_0 rfl (lv_at hl 0 rfl) ?_
  refine va_get (v := .ref (L 6 0)) (C := RX5) (T := TX5) (N := 5) hx hb hts hinX5 hown hK hP 0 rfl rfl 4 (by decide) hf36 (fun _ h9 => h9) rfl dX5_undo_1 ?_
  have hP : va_P G vwCl (cat [[(h, .inr (5, [.ref (Ad 0), .ref (At 0), .ref (As 0), .ref (Ac 0), .ref (L 6 0)]))], [(L 6 0, .inr (2, [.ref (L 6 1), .int (nI (V.1))]))], [(L 6 1, .inl (cyO, 6, .inr (.inr (.inr (.inr (fun k => some (L k 0)))))))], dyW cyI (L 0) (V.2 0), dyW cyI (L 1) (V.2 1), dyW cyI (L 2) (V.2 2), dyW cyI (L 3) (V.2 3), dyW cyI (L 4) (V.2 4), dyW cyI (L 5) (V.2 5)]) s9.heap := hP
  have hD : va_D A9 (cat [[(h, .inr (5, [.ref (Ad 0), .ref (At 0), .ref (As 0), .ref (Ac 0), .ref (L 6 0)]))], [(L 6 0, .inr (2, [.ref (L 6 1), .int (nI (V.1))]))], [(L 6 1, .inl (cyO, 6, .inr (.inr (.inr (.inr (fun k => some (L k 0)))))))], dyW cyI (L 0) (V.2 0), dyW cyI (L 1) (V.2 1), dyW cyI (L 2) (V.2 2), dyW cyI (L 3) (V.2 3), dyW cyI (L 4) (V.2 4), dyW cyI (L 5) (V.2 5)]) := hD
  refine gVi (gs := [[(h, .inr (5, [.ref (Ad 0), .ref (At 0), .ref (As 0), .ref (Ac 0), .ref (L 6 0)]))], [(L 6 0, .inr (2, [.ref (L 6 1), .int (nI (V.1))]))], [(L 6 1, .inl (cyO, 6, .inr (.inr (.inr (.inr (fun k => some (L k 0)))))))], dyW cyI (L 0) (V.2 0), dyW cyI (L 1) (V.2 1), dyW cyI (L 2) (V.2 2), dyW cyI (L 3) (V.2 3), dyW cyI (L 4) (V.2 4), dyW cyI (L 5) (V.2 5)]) (As := []) (rest := []) ⟨hx, hb, hml, hown, hts⟩ (c_X2_isEmpty l G cyI cyO (L 6 0) (L 6 1) V.1 (fun k => some (L k 0)) (by omega)) (cwV 0 hts gX5_undo_X2_isEmpty rfl rfl rfl (by decide +kernel) ⟨Nat.le_of_ble_eq_true rfl, Nat.le_of_ble_eq_true rfl⟩) hK hP hD hS hA [1, 2] rfl rfl rfl 0 2 rfl rfl rfl hl.1 rfl (Nat.le_of_ble_eq_true rfl) dX5_undo_4 ⟨Nat.zero_le _, Nat.zero_le _⟩ (fun H locs hP hD hS => ?_)
  have hP : va_P G vwCl (cat [[(h, .inr (5, [.ref (Ad 0), .ref (At 0), .ref (As 0), .ref (Ac 0), .ref (L 6 0)]))], [(L 6 0, .inr (2, [.ref (L 6 1), .int (nI (V.1))]))], [(L 6 1, .inl (cyO, 6, .inr (.inr (.inr (.inr (fun k => some (L k 0)))))))], dyW cyI (L 0) (V.2 0), dyW cyI (L 1) (V.2 1), dyW cyI (L 2) (V.2 2), dyW cyI (L 3) (V.2 3), dyW cyI (L 4) (V.2 4), dyW cyI (L 5) (V.2 5)]) H := hP
  have hD : va_D A9 (cat [[(h, .inr (5, [.ref (Ad 0), .ref (At 0), .ref (As 0), .ref (Ac 0), .ref (L 6 0)]))], [(L 6 0, .inr (2, [.ref (L 6 1), .int (nI (V.1))]))], [(L 6 1, .inl (cyO, 6, .inr (.inr (.inr (.inr (fun k => some (L k 0)))))))], dyW cyI (L 0) (V.2 0), dyW cyI (L 1) (V.2 1), dyW cyI (L 2) (V.2 2), dyW cyI (L 3) (V.2 3), dyW cyI (L 4) (V.2 4), dyW cyI (L 5) (V.2 5)]) := hD
  refine lv_if_eq (tgt := 20) hx hb dX5_undo_7 (by decide) (fun c_7 => ?_) (fun c_7 => ?_)
  · have c_7 : (decide (V.1 = 0)) = false := bI_z.mp c_7
    have c_7 : ¬ (V.1 = 0) := of_decide_eq_false c_7
    exact absurd c_7 (by omega)
  · have c_7 : (decide (V.1 = 0)) = true := bI_nz.mp c_7
    have c_7 : (V.1 = 0) := of_decide_eq_true c_7
    have hP : va_P G vwCl (cat [[(h, .inr (5, [.ref (Ad 0), .ref (At 0), .ref (As 0), .ref (Ac 0), .ref (L 6 0)]))], hiW cyI cyO L V]) _ := hP
    have hD : va_D A9 (cat [[(h, .inr (5, [.ref (Ad 0), .ref (At 0), .ref (As 0), .ref (Ac 0), .ref (L 6 0)]))], hiW cyI cyO L V]) := hD
    exact gThrow (E := xIS) (text := "no state is saved") (ik := 48) (is := 207) (ic := 52) hx hb htr hown (by decide) (by decide +kernel) (by decide) (hts (.classLink RX5 48 xIS) (by decide +kernel)) (hts (.initialized xIS) (by decide +kernel)) (fun w h9 => hts w (List.mem_cons_of_mem _ (List.mem_append_right _ h9))) xb_IS xo_IS hX hK hP hD hS hl.1 hml dX5_undo_10 dX5_undo_13 dX5_undo_14 dX5_undo_16 dX5_undo_19 htab hlocks rfl ⟨by decide, by decide, Nat.le_refl _, Nat.le_refl _⟩

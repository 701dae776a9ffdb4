/-! ===== the law's calls that may throw ===== -/

abbrev rh_L_addDoorstep : Room := { frames := 8, cells := 1, slots := 6, locals := 123 }
set_option maxHeartbeats 4000000 in
set_option maxRecDepth 100000 in
theorem n_L_addDoorstep (l : Launch) (G : va_G) (cyI cyO : ClassId) (h : Nat) (Ad At As Ac : Nat → Nat) (L : Nat → Nat → Nat) (D : DS) (V : HS) (hn : D.2.2.2.2.2.1 ≤ 20) (hV : V.1 ≤ 6) (v : Nat) (h1 : 1 ≤ v) (h9 : v ≤ 9) (hm : (!dHO D && decide (D.2.2.2.2.2.1 < 20)) = true) : CH l G (TY cyI cyO) yL_addDoorstep wsL_addDoorstep rh_L_addDoorstep [.ref (h), .int (nI (v))] [[(h, .inr (5, [.ref (Ad 0), .ref (At 0), .ref (As 0), .ref (Ac 0), .ref (L 6 0)]))], dyW cyI Ad D, hiW cyI cyO L V] (nI (D.2.2.2.2.2.1)) [[(h, .inr (5, [.ref (Ad 0), .ref (At 0), .ref (As 0), .ref (Ac 0), .ref (L 6 0)]))], dyW cyI Ad (dAdd D (nI v)), hiW cyI cyO (svM L V) (svS V D)] := by
  refine wk_H (cc := cL_addDoorstep) (maxL := 4) (ret := (some .int)) (hh := [(0, 6, 9, 15), (0, 6, 13, 17)]) (by decide) rfl (Nat.le_of_ble_eq_true rfl) ?_
  intro p9 e9 s9 m9 b9 t9 c9 A9 ls hx hb hr hts hown hlocks hml hK hA hD hP hl hS hX htab
  have hl : lv_has ls 4 [(0, .ref (h)), (1, .int (nI (v)))] := hl
  refine lv_aload_n hx hb dL_addDoorstep_0 rfl (lv_at hl 0 rfl) ?_
  refine lv_iload_n hx hb dL_addDoorstep_1 rfl (lv_at hl 1 rfl) ?_
  refine gVi (gs := [[(h, .inr (5, [.ref (Ad 0), .ref (At 0), .ref (As 0), .ref (Ac 0), .ref (L 6 0)]))], dyW cyI Ad D, hiW cyI cyO L V]) (As := [.int (nI (v))]) (rest := []) ⟨hx, hb, hml, hown, hts⟩ (c_X5_addDoorstep l G cyI cyO h Ad At As Ac L D V hn hV v h1 h9 hm) (cwV 1 hts gL_addDoorstep_X5_addDoorstep rfl rfl rfl (by decide +kernel) ⟨Nat.le_of_ble_eq_true rfl, Nat.le_of_ble_eq_true rfl⟩) hK hP hD hS hA [0, 1, 2] rfl rfl rfl 0 5 rfl rfl rfl hl.1 rfl (Nat.le_of_ble_eq_true rfl) dL_addDoorstep_2 ⟨Nat.zero_le _, Nat.zero_le _⟩ (fun H locs hP hD hS => ?_)
  have hP : va_P G vwCl (cat [[(h, .inr (5, [.ref (Ad 0), .ref (At 0), .ref (As 0), .ref (Ac 0), .ref (L 6 0)]))], dyW cyI Ad (dAdd D (nI v)), hiW cyI cyO (svM L V) (svS V D)]) H := hP
  have hD : va_D A9 (cat [[(h, .inr (5, [.ref (Ad 0), .ref (At 0), .ref (As 0), .ref (Ac 0), .ref (L 6 0)]))], dyW cyI Ad (dAdd D (nI v)), hiW cyI cyO (svM L V) (svS V D)]) := hD
  refine lv_istore_n (lv' := [(2, .int (nI (D.2.2.2.2.2.1))), (0, .ref (h)), (1, .int (nI (v)))]) hx hb dL_addDoorstep_5 rfl hl (by decide) rfl (fun ls hl => ?_)
  refine lv_goto (tgt := 17) hx hb dL_addDoorstep_6 (by decide) ?_
  refine lv_iload_n hx hb dL_addDoorstep_17 rfl (lv_at hl 0 rfl) ?_
  refine W.widen (k := 1) (n := 6) (by decide) (by decide) ?_
  have hP : va_P G vwCl (cat [[(h, .inr (5, [.ref (Ad 0), .ref (At 0), .ref (As 0), .ref (Ac 0), .ref (L 6 0)]))], dyW cyI Ad (dAdd D (nI v)), hiW cyI cyO (svM L V) (svS V D)]) H := hP
  have hD : va_D A9 (cat [[(h, .inr (5, [.ref (Ad 0), .ref (At 0), .ref (As 0), .ref (Ac 0), .ref (L 6 0)]))], dyW cyI Ad (dAdd D (nI v)), hiW cyI cyO (svM L V) (svS V D)]) := hD
  exact end_i hx hb hr hlocks hK hP hD hS (rfl) dL_addDoorstep_18
set_option maxHeartbeats 4000000 in
set_option maxRecDepth 100000 in
theorem t_L_addDoorstep_IA (l : Launch) (G : va_G) (cyI cyO : ClassId) (h : Nat) (Ad At As Ac : Nat → Nat) (L : Nat → Nat → Nat) (D : DS) (x : Int32) (hx9 : isDig x 1 9 = false) (htr : l.stackTraces = false) : CH l G (TY cyI cyO) yL_addDoorstep wsL_addDoorstep rh_L_addDoorstep [.ref (h), .int (x)] [[(h, .inr (5, [.ref (Ad 0), .ref (At 0), .ref (As 0), .ref (Ac 0), .ref (L 6 0)]))], dyW cyI Ad D] ((-32 : Int32)) [[(h, .inr (5, [.ref (Ad 0), .ref (At 0), .ref (As 0), .ref (Ac 0), .ref (L 6 0)]))], dyW cyI Ad D] := by
  refine wk_H (cc := cL_addDoorstep) (maxL := 4) (ret := (some .int)) (hh := [(0, 6, 9, 15), (0, 6, 13, 17)]) (by decide) rfl (Nat.le_of_ble_eq_true rfl) ?_
  intro p9 e9 s9 m9 b9 t9 c9 A9 ls hx hb hr hts hown hlocks hml hK hA hD hP hl hS hX htab
  have hl : lv_has ls 4 [(0, .ref (h)), (1, .int (x))] := hl
  refine lv_aload_n hx hb dL_addDoorstep_0 rfl (lv_at hl 0 rfl) ?_
  refine lv_iload_n hx hb dL_addDoorstep_1 rfl (lv_at hl 1 rfl) ?_
  refine gXV (gs := [[(h, .inr (5, [.ref (Ad 0), .ref (At 0), .ref (As 0), .ref (Ac 0), .ref (L 6 0)]))], dyW cyI Ad D]) (As := [.int (x)]) (rest := []) ⟨hx, hb, hml, hown, hts⟩ (x_X5_addDoorstep_IA l G cyI cyO h Ad At As Ac L D x hx9 htr) (cwV 1 hts gL_addDoorstep_X5_addDoorstep rfl rfl rfl (by decide +kernel) ⟨Nat.le_of_ble_eq_true rfl, Nat.le_of_ble_eq_true rfl⟩) hK hX hP hD hS hA [0, 1] rfl rfl 0 5 rfl rfl rfl hl.1 rfl (Nat.le_of_ble_eq_true rfl) dL_addDoorstep_2 ⟨Nat.le_refl _, Nat.le_refl _⟩ (fun ce9 q9 H locs hP hD hS hce hcv hcl => ?_)
  refine vx_catch (E := xIA) (name := xIA) hown [] ⟨0, 6, 9, 15⟩ [⟨0, 6, 13, 17⟩] htab (fun _ h9 => nomatch h9) (by decide) (by decide) (hts (.classLink RL 15 xIA) (by decide +kernel)) (va_Nw.use rfl (hX.2.2.2.1 xIA (by decide))) hce hcv hcl ?_
  refine W.eq (g2 := F0 m9 9 ls [.ref q9]) rfl ?_
  refine lv_astore_n (lv' := [(3, .ref (q9)), (0, .ref (h)), (1, .int (x))]) hx hb dL_addDoorstep_9 rfl hl (by decide) rfl (fun ls hl => ?_)
  refine lv_bipush (v := (-32 : Int32)) hx hb dL_addDoorstep_10 (by decide) ?_
  refine W.widen (k := 1) (n := 6) (by decide) (by decide) ?_
  have hP : va_P G vwCl (cat [[(h, .inr (5, [.ref (Ad 0), .ref (At 0), .ref (As 0), .ref (Ac 0), .ref (L 6 0)]))], dyW cyI Ad D]) H := hP
  have hD : va_D A9 (cat [[(h, .inr (5, [.ref (Ad 0), .ref (At 0), .ref (As 0), .ref (Ac 0), .ref (L 6 0)]))], dyW cyI Ad D]) := hD
  exact end_i hx hb hr hlocks hK hP hD hS (rfl) dL_addDoorstep_12
set_option maxHeartbeats 4000000 in
set_option maxRecDepth 100000 in
theorem t_L_addDoorstep_IS (l : Launch) (G : va_G) (cyI cyO : ClassId) (h : Nat) (Ad At As Ac : Nat → Nat) (L : Nat → Nat → Nat) (D : DS) (hn : D.2.2.2.2.2.1 ≤ 20) (v : Nat) (h1 : 1 ≤ v) (h9 : v ≤ 9) (hm : (!dHO D && decide (D.2.2.2.2.2.1 < 20)) = false) (htr : l.stackTraces = false) : CH l G (TY cyI cyO) yL_addDoorstep wsL_addDoorstep rh_L_addDoorstep [.ref (h), .int (nI (v))] [[(h, .inr (5, [.ref (Ad 0), .ref (At 0), .ref (As 0), .ref (Ac 0), .ref (L 6 0)]))], dyW cyI Ad D] ((-33 : Int32)) [[(h, .inr (5, [.ref (Ad 0), .ref (At 0), .ref (As 0), .ref (Ac 0), .ref (L 6 0)]))], dyW cyI Ad D] := by
  refine wk_H (cc := cL_addDoorstep) (maxL := 4) (ret := (some .int)) (hh := [(0, 6, 9, 15), (0, 6, 13, 17)]) (by decide) rfl (Nat.le_of_ble_eq_true rfl) ?_
  intro p9 e9 s9 m9 b9 t9 c9 A9 ls hx hb hr hts hown hlocks hml hK hA hD hP hl hS hX htab
  have hl : lv_has ls 4 [(0, .ref (h)), (1, .int (nI (v)))] := hl
  refine lv_aload_n hx hb dL_addDoorstep_0 rfl (lv_at hl 0 rfl) ?_
  refine lv_iload_n hx hb dL_addDoorstep_1 rfl (lv_at hl 1 rfl) ?_
  refine gXV (gs := [[(h, .inr (5, [.ref (Ad 0), .ref (At 0), .ref (As 0), .ref (Ac 0), .ref (L 6 0)]))], dyW cyI Ad D]) (As := [.int (nI (v))]) (rest := []) ⟨hx, hb, hml, hown, hts⟩ (x_X5_addDoorstep_IS l G cyI cyO h Ad At As Ac L D hn v h1 h9 hm htr) (cwV 1 hts gL_addDoorstep_X5_addDoorstep rfl rfl rfl (by decide +kernel) ⟨Nat.le_of_ble_eq_true rfl, Nat.le_of_ble_eq_true rfl⟩) hK hX hP hD hS hA [0, 1] rfl rfl 0 5 rfl rfl rfl hl.1 rfl (Nat.le_of_ble_eq_true rfl) dL_addDoorstep_2 ⟨Nat.le_refl _, Nat.le_refl _⟩ (fun ce9 q9 H locs hP hD hS hce hcv hcl => ?_)
  refine vx_catch (E := xIS) (name := xIS) hown [⟨0, 6, 9, 15⟩] ⟨0, 6, 13, 17⟩ [] htab (fun z h9 => by cases List.mem_singleton.mp h9; exact Or.inr ⟨by decide, xIA, hts (.classLink RL 15 xIA) (by decide +kernel), hX.2.2.2.2.2 (xIS, xIA) (by decide)⟩) (by decide) (by decide) (hts (.classLink RL 17 xIS) (by decide +kernel)) (va_Nw.use rfl (hX.2.2.2.1 xIS (by decide))) hce hcv hcl ?_
  refine W.eq (g2 := F0 m9 13 ls [.ref q9]) rfl ?_
  refine lv_astore_n (lv' := [(3, .ref (q9)), (0, .ref (h)), (1, .int (nI (v)))]) hx hb dL_addDoorstep_13 rfl hl (by decide) rfl (fun ls hl => ?_)
  refine lv_bipush (v := (-33 : Int32)) hx hb dL_addDoorstep_14 (by decide) ?_
  refine W.widen (k := 1) (n := 6) (by decide) (by decide) ?_
  have hP : va_P G vwCl (cat [[(h, .inr (5, [.ref (Ad 0), .ref (At 0), .ref (As 0), .ref (Ac 0), .ref (L 6 0)]))], dyW cyI Ad D]) H := hP
  have hD : va_D A9 (cat [[(h, .inr (5, [.ref (Ad 0), .ref (At 0), .ref (As 0), .ref (Ac 0), .ref (L 6 0)]))], dyW cyI Ad D]) := hD
  exact end_i hx hb hr hlocks hK hP hD hS (rfl) dL_addDoorstep_16
abbrev rh_L_removeDoorstep : Room := { frames := 8, cells := 1, slots := 6, locals := 124 }
set_option maxHeartbeats 4000000 in
set_option maxRecDepth 100000 in
theorem n_L_removeDoorstep (l : Launch) (G : va_G) (cyI cyO : ClassId) (h : Nat) (Ad At As Ac : Nat → Nat) (L : Nat → Nat → Nat) (D : DS) (V : HS) (hn : D.2.2.2.2.2.1 ≤ 20) (hV : V.1 ≤ 6) (k : Nat) (hk : k < D.2.2.2.2.2.1) (ho : dHO D = false) : CH l G (TY cyI cyO) yL_removeDoorstep wsL_removeDoorstep rh_L_removeDoorstep [.ref (h), .int (nI (k))] [[(h, .inr (5, [.ref (Ad 0), .ref (At 0), .ref (As 0), .ref (Ac 0), .ref (L 6 0)]))], dyW cyI Ad D, hiW cyI cyO L V] (D.2.1 k) [[(h, .inr (5, [.ref (Ad 0), .ref (At 0), .ref (As 0), .ref (Ac 0), .ref (L 6 0)]))], dyW cyI Ad (dRem D k), hiW cyI cyO (svM L V) (svS V D)] := by
  refine wk_H (cc := cL_removeDoorstep) (maxL := 4) (ret := (some .int)) (hh := [(0, 6, 9, 22), (0, 6, 13, 17)]) (by decide) rfl (Nat.le_of_ble_eq_true rfl) ?_
  intro p9 e9 s9 m9 b9 t9 c9 A9 ls hx hb hr hts hown hlocks hml hK hA hD hP hl hS hX htab
  have hl : lv_has ls 4 [(0, .ref (h)), (1, .int (nI (k)))] := hl
  refine lv_aload_n hx hb dL_removeDoorstep_0 rfl (lv_at hl 0 rfl) ?_
  refine lv_iload_n hx hb dL_removeDoorstep_1 rfl (lv_at hl 1 rfl) ?_
  refine gVi (gs := [[(h, .inr (5, [.ref (Ad 0), .ref (At 0), .ref (As 0), .ref (Ac 0), .ref (L 6 0)]))], dyW cyI Ad D, hiW cyI cyO L V]) (As := [.int (nI (k))]) (rest := []) ⟨hx, hb, hml, hown, hts⟩ (c_X5_removeDoorstep l G cyI cyO h Ad At As Ac L D V hn hV k hk ho) (cwV 1 hts gL_removeDoorstep_X5_removeDoorstep rfl rfl rfl (by decide +kernel) ⟨Nat.le_of_ble_eq_true rfl, Nat.le_of_ble_eq_true rfl⟩) hK hP hD hS hA [0, 1, 2] rfl rfl rfl 0 5 rfl rfl rfl hl.1 rfl (Nat.le_of_ble_eq_true rfl) dL_removeDoorstep_2 ⟨Nat.zero_le _, Nat.zero_le _⟩ (fun H locs hP hD hS => ?_)
  have hP : va_P G vwCl (cat [[(h, .inr (5, [.ref (Ad 0), .ref (At 0), .ref (As 0), .ref (Ac 0), .ref (L 6 0)]))], dyW cyI Ad (dRem D k), hiW cyI cyO (svM L V) (svS V D)]) H := hP
  have hD : va_D A9 (cat [[(h, .inr (5, [.ref (Ad 0), .ref (At 0), .ref (As 0), .ref (Ac 0), .ref (L 6 0)]))], dyW cyI Ad (dRem D k), hiW cyI cyO (svM L V) (svS V D)]) := hD
  refine lv_istore_n (lv' := [(2, .int (D.2.1 k)), (0, .ref (h)), (1, .int (nI (k)))]) hx hb dL_removeDoorstep_5 rfl hl (by decide) rfl (fun ls hl => ?_)
  refine lv_goto (tgt := 17) hx hb dL_removeDoorstep_6 (by decide) ?_
  refine lv_iload_n hx hb dL_removeDoorstep_17 rfl (lv_at hl 0 rfl) ?_
  refine W.widen (k := 1) (n := 6) (by decide) (by decide) ?_
  have hP : va_P G vwCl (cat [[(h, .inr (5, [.ref (Ad 0), .ref (At 0), .ref (As 0), .ref (Ac 0), .ref (L 6 0)]))], dyW cyI Ad (dRem D k), hiW cyI cyO (svM L V) (svS V D)]) H := hP
  have hD : va_D A9 (cat [[(h, .inr (5, [.ref (Ad 0), .ref (At 0), .ref (As 0), .ref (Ac 0), .ref (L 6 0)]))], dyW cyI Ad (dRem D k), hiW cyI cyO (svM L V) (svS V D)]) := hD
  exact end_i hx hb hr hlocks hK hP hD hS (rfl) dL_removeDoorstep_18
set_option maxHeartbeats 4000000 in
set_option maxRecDepth 100000 in
theorem t_L_removeDoorstep_IO (l : Launch) (G : va_G) (cyI cyO : ClassId) (h : Nat) (Ad At As Ac : Nat → Nat) (L : Nat → Nat → Nat) (D : DS) (hn : D.2.2.2.2.2.1 ≤ 20) (x : Int32) (hx9 : dHas D.2.2.2.2.2.1 x = false) (htr : l.stackTraces = false) : CH l G (TY cyI cyO) yL_removeDoorstep wsL_removeDoorstep rh_L_removeDoorstep [.ref (h), .int (x)] [[(h, .inr (5, [.ref (Ad 0), .ref (At 0), .ref (As 0), .ref (Ac 0), .ref (L 6 0)]))], dyW cyI Ad D] ((-31 : Int32)) [[(h, .inr (5, [.ref (Ad 0), .ref (At 0), .ref (As 0), .ref (Ac 0), .ref (L 6 0)]))], dyW cyI Ad D] := by
  refine wk_H (cc := cL_removeDoorstep) (maxL := 4) (ret := (some .int)) (hh := [(0, 6, 9, 22), (0, 6, 13, 17)]) (by decide) rfl (Nat.le_of_ble_eq_true rfl) ?_
  intro p9 e9 s9 m9 b9 t9 c9 A9 ls hx hb hr hts hown hlocks hml hK hA hD hP hl hS hX htab
  have hl : lv_has ls 4 [(0, .ref (h)), (1, .int (x))] := hl
  refine lv_aload_n hx hb dL_removeDoorstep_0 rfl (lv_at hl 0 rfl) ?_
  refine lv_iload_n hx hb dL_removeDoorstep_1 rfl (lv_at hl 1 rfl) ?_
  refine gXV (gs := [[(h, .inr (5, [.ref (Ad 0), .ref (At 0), .ref (As 0), .ref (Ac 0), .ref (L 6 0)]))], dyW cyI Ad D]) (As := [.int (x)]) (rest := []) ⟨hx, hb, hml, hown, hts⟩ (x_X5_removeDoorstep_IO l G cyI cyO h Ad At As Ac L D hn x hx9 htr) (cwV 1 hts gL_removeDoorstep_X5_removeDoorstep rfl rfl rfl (by decide +kernel) ⟨Nat.le_of_ble_eq_true rfl, Nat.le_of_ble_eq_true rfl⟩) hK hX hP hD hS hA [0, 1] rfl rfl 0 5 rfl rfl rfl hl.1 rfl (Nat.le_of_ble_eq_true rfl) dL_removeDoorstep_2 ⟨Nat.le_refl _, Nat.le_refl _⟩ (fun ce9 q9 H locs hP hD hS hce hcv hcl => ?_)
  refine vx_catch (E := xIO) (name := xIO) hown [] ⟨0, 6, 9, 22⟩ [⟨0, 6, 13, 17⟩] htab (fun _ h9 => nomatch h9) (by decide) (by decide) (hts (.classLink RL 22 xIO) (by decide +kernel)) (va_Nw.use rfl (hX.2.2.2.1 xIO (by decide))) hce hcv hcl ?_
  refine W.eq (g2 := F0 m9 9 ls [.ref q9]) rfl ?_
  refine lv_astore_n (lv' := [(3, .ref (q9)), (0, .ref (h)), (1, .int (x))]) hx hb dL_removeDoorstep_9 rfl hl (by decide) rfl (fun ls hl => ?_)
  refine lv_bipush (v := (-31 : Int32)) hx hb dL_removeDoorstep_10 (by decide) ?_
  refine W.widen (k := 1) (n := 6) (by decide) (by decide) ?_
  have hP : va_P G vwCl (cat [[(h, .inr (5, [.ref (Ad 0), .ref (At 0), .ref (As 0), .ref (Ac 0), .ref (L 6 0)]))], dyW cyI Ad D]) H := hP
  have hD : va_D A9 (cat [[(h, .inr (5, [.ref (Ad 0), .ref (At 0), .ref (As 0), .ref (Ac 0), .ref (L 6 0)]))], dyW cyI Ad D]) := hD
  exact end_i hx hb hr hlocks hK hP hD hS (rfl) dL_removeDoorstep_12
set_option maxHeartbeats 4000000 in
set_option maxRecDepth 100000 in
theorem t_L_removeDoorstep_IS (l : Launch) (G : va_G) (cyI cyO : ClassId) (h : Nat) (Ad At As Ac : Nat → Nat) (L : Nat → Nat → Nat) (D : DS) (hn : D.2.2.2.2.2.1 ≤ 20) (k : Nat) (hk : k < D.2.2.2.2.2.1) (ho : dHO D = true) (htr : l.stackTraces = false) : CH l G (TY cyI cyO) yL_removeDoorstep wsL_removeDoorstep rh_L_removeDoorstep [.ref (h), .int (nI (k))] [[(h, .inr (5, [.ref (Ad 0), .ref (At 0), .ref (As 0), .ref (Ac 0), .ref (L 6 0)]))], dyW cyI Ad D] ((-33 : Int32)) [[(h, .inr (5, [.ref (Ad 0), .ref (At 0), .ref (As 0), .ref (Ac 0), .ref (L 6 0)]))], dyW cyI Ad D] := by
  refine wk_H (cc := cL_removeDoorstep) (maxL := 4) (ret := (some .int)) (hh := [(0, 6, 9, 22), (0, 6, 13, 17)]) (by decide) rfl (Nat.le_of_ble_eq_true rfl) ?_
  intro p9 e9 s9 m9 b9 t9 c9 A9 ls hx hb hr hts hown hlocks hml hK hA hD hP hl hS hX htab
  have hl : lv_has ls 4 [(0, .ref (h)), (1, .int (nI (k)))] := hl
  refine lv_aload_n hx hb dL_removeDoorstep_0 rfl (lv_at hl 0 rfl) ?_
  refine lv_iload_n hx hb dL_removeDoorstep_1 rfl (lv_at hl 1 rfl) ?_
  refine gXV (gs := [[(h, .inr (5, [.ref (Ad 0), .ref (At 0), .ref (As 0), .ref (Ac 0), .ref (L 6 0)]))], dyW cyI Ad D]) (As := [.int (nI (k))]) (rest := []) ⟨hx, hb, hml, hown, hts⟩ (x_X5_removeDoorstep_IS l G cyI cyO h Ad At As Ac L D hn k hk ho htr) (cwV 1 hts gL_removeDoorstep_X5_removeDoorstep rfl rfl rfl (by decide +kernel) ⟨Nat.le_of_ble_eq_true rfl, Nat.le_of_ble_eq_true rfl⟩) hK hX hP hD hS hA [0, 1] rfl rfl 0 5 rfl rfl rfl hl.1 rfl (Nat.le_of_ble_eq_true rfl) dL_removeDoorstep_2 ⟨Nat.le_refl _, Nat.le_refl _⟩ (fun ce9 q9 H locs hP hD hS hce hcv hcl => ?_)
  refine vx_catch (E := xIS) (name := xIS) hown [⟨0, 6, 9, 22⟩] ⟨0, 6, 13, 17⟩ [] htab (fun z h9 => by cases List.mem_singleton.mp h9; exact Or.inr ⟨by decide, xIO, hts (.classLink RL 22 xIO) (by decide +kernel), hX.2.2.2.2.2 (xIS, xIO) (by decide)⟩) (by decide) (by decide) (hts (.classLink RL 17 xIS) (by decide +kernel)) (va_Nw.use rfl (hX.2.2.2.1 xIS (by decide))) hce hcv hcl ?_
  refine W.eq (g2 := F0 m9 13 ls [.ref q9]) rfl ?_
  refine lv_astore_n (lv' := [(3, .ref (q9)), (0, .ref (h)), (1, .int (nI (k)))]) hx hb dL_removeDoorstep_13 rfl hl (by decide) rfl (fun ls hl => ?_)
  refine lv_bipush (v := (-33 : Int32)) hx hb dL_removeDoorstep_14 (by decide) ?_
  refine W.widen (k := 1) (n := 6) (by decide) (by decide) ?_
  have hP : va_P G vwCl (cat [[(h, .inr (5, [.ref (Ad 0), .ref (At 0), .ref (As 0), .ref (Ac 0), .ref (L 6 0)]))], dyW cyI Ad D]) H := hP
  have hD : va_D A9 (cat [[(h, .inr (5, [.ref (Ad 0), .ref (At 0), .ref (As 0), .ref (Ac 0), .ref (L 6 0)]))], dyW cyI Ad D]) := hD
  exact end_i hx hb hr hlocks hK hP hD hS (rfl) dL_removeDoorstep_16
abbrev rh_L_setPints : Room := { frames := 8, cells := 1, slots := 6, locals := 125 }
set_option maxHeartbeats 4000000 in
set_option maxRecDepth 100000 in
theorem n_L_setPints (l : Launch) (G : va_G) (cyI cyO : ClassId) (h : Nat) (Ad At As Ac : Nat → Nat) (L : Nat → Nat → Nat) (D : DS) (V : HS) (hn : D.2.2.2.2.2.1 ≤ 20) (hV : V.1 ≤ 6) (k : Nat) (hk : k < D.2.2.2.2.2.1) (v : Nat) (h1 : 1 ≤ v) (h9 : v ≤ 9) : CH l G (TY cyI cyO) yL_setPints wsL_setPints rh_L_setPints [.ref (h), .int (nI (k)), .int (nI (v))] [[(h, .inr (5, [.ref (Ad 0), .ref (At 0), .ref (As 0), .ref (Ac 0), .ref (L 6 0)]))], dyW cyI Ad D, hiW cyI cyO L V] (D.1 k) [[(h, .inr (5, [.ref (Ad 0), .ref (At 0), .ref (As 0), .ref (Ac 0), .ref (L 6 0)]))], dyW cyI Ad (dPts D k (nI v)), hiW cyI cyO (svM L V) (svS V D)] := by
  refine wk_H (cc := cL_setPints) (maxL := 5) (ret := (some .int)) (hh := [(0, 7, 10, 22), (0, 7, 15, 15)]) (by decide) rfl (Nat.le_of_ble_eq_true rfl) ?_
  intro p9 e9 s9 m9 b9 t9 c9 A9 ls hx hb hr hts hown hlocks hml hK hA hD hP hl hS hX htab
  have hl : lv_has ls 5 [(0, .ref (h)), (1, .int (nI (k))), (2, .int (nI (v)))] := hl
  refine lv_aload_n hx hb dL_setPints_0 rfl (lv_at hl 0 rfl) ?_
  refine lv_iload_n hx hb dL_setPints_1 rfl (lv_at hl 1 rfl) ?_
  refine lv_iload_n hx hb dL_setPints_2 rfl (lv_at hl 2 rfl) ?_
  refine gVi (gs := [[(h, .inr (5, [.ref (Ad 0), .ref (At 0), .ref (As 0), .ref (Ac 0), .ref (L 6 0)]))], dyW cyI Ad D, hiW cyI cyO L V]) (As := [.int (nI (k)), .int (nI (v))]) (rest := []) ⟨hx, hb, hml, hown, hts⟩ (c_X5_setPints l G cyI cyO h Ad At As Ac L D V hn hV k hk v h1 h9) (cwV 2 hts gL_setPints_X5_setPints rfl rfl rfl (by decide +kernel) ⟨Nat.le_of_ble_eq_true rfl, Nat.le_of_ble_eq_true rfl⟩) hK hP hD hS hA [0, 1, 2] rfl rfl rfl 0 5 rfl rfl rfl hl.1 rfl (Nat.le_of_ble_eq_true rfl) dL_setPints_3 ⟨Nat.zero_le _, Nat.zero_le _⟩ (fun H locs hP hD hS => ?_)
  have hP : va_P G vwCl (cat [[(h, .inr (5, [.ref (Ad 0), .ref (At 0), .ref (As 0), .ref (Ac 0), .ref (L 6 0)]))], dyW cyI Ad (dPts D k (nI v)), hiW cyI cyO (svM L V) (svS V D)]) H := hP
  have hD : va_D A9 (cat [[(h, .inr (5, [.ref (Ad 0), .ref (At 0), .ref (As 0), .ref (Ac 0), .ref (L 6 0)]))], dyW cyI Ad (dPts D k (nI v)), hiW cyI cyO (svM L V) (svS V D)]) := hD
  refine lv_istore_n (lv' := [(3, .int (D.1 k)), (0, .ref (h)), (1, .int (nI (k))), (2, .int (nI (v)))]) hx hb dL_setPints_6 rfl hl (by decide) rfl (fun ls hl => ?_)
  refine lv_goto (tgt := 20) hx hb dL_setPints_7 (by decide) ?_
  refine lv_iload_n hx hb dL_setPints_20 rfl (lv_at hl 0 rfl) ?_
  refine W.widen (k := 1) (n := 6) (by decide) (by decide) ?_
  have hP : va_P G vwCl (cat [[(h, .inr (5, [.ref (Ad 0), .ref (At 0), .ref (As 0), .ref (Ac 0), .ref (L 6 0)]))], dyW cyI Ad (dPts D k (nI v)), hiW cyI cyO (svM L V) (svS V D)]) H := hP
  have hD : va_D A9 (cat [[(h, .inr (5, [.ref (Ad 0), .ref (At 0), .ref (As 0), .ref (Ac 0), .ref (L 6 0)]))], dyW cyI Ad (dPts D k (nI v)), hiW cyI cyO (svM L V) (svS V D)]) := hD
  exact end_i hx hb hr hlocks hK hP hD hS (rfl) dL_setPints_21
set_option maxHeartbeats 4000000 in
set_option maxRecDepth 100000 in
theorem t_L_setPints_IO (l : Launch) (G : va_G) (cyI cyO : ClassId) (h : Nat) (Ad At As Ac : Nat → Nat) (L : Nat → Nat → Nat) (D : DS) (hn : D.2.2.2.2.2.1 ≤ 20) (x : Int32) (hx9 : dHas D.2.2.2.2.2.1 x = false) (w : Int32) (htr : l.stackTraces = false) : CH l G (TY cyI cyO) yL_setPints wsL_setPints rh_L_setPints [.ref (h), .int (x), .int (w)] [[(h, .inr (5, [.ref (Ad 0), .ref (At 0), .ref (As 0), .ref (Ac 0), .ref (L 6 0)]))], dyW cyI Ad D] ((-31 : Int32)) [[(h, .inr (5, [.ref (Ad 0), .ref (At 0), .ref (As 0), .ref (Ac 0), .ref (L 6 0)]))], dyW cyI Ad D] := by
  refine wk_H (cc := cL_setPints) (maxL := 5) (ret := (some .int)) (hh := [(0, 7, 10, 22), (0, 7, 15, 15)]) (by decide) rfl (Nat.le_of_ble_eq_true rfl) ?_
  intro p9 e9 s9 m9 b9 t9 c9 A9 ls hx hb hr hts hown hlocks hml hK hA hD hP hl hS hX htab
  have hl : lv_has ls 5 [(0, .ref (h)), (1, .int (x)), (2, .int (w))] := hl
  refine lv_aload_n hx hb dL_setPints_0 rfl (lv_at hl 0 rfl) ?_
  refine lv_iload_n hx hb dL_setPints_1 rfl (lv_at hl 1 rfl) ?_
  refine lv_iload_n hx hb dL_setPints_2 rfl (lv_at hl 2 rfl) ?_
  refine gXV (gs := [[(h, .inr (5, [.ref (Ad 0), .ref (At 0), .ref (As 0), .ref (Ac 0), .ref (L 6 0)]))], dyW cyI Ad D]) (As := [.int (x), .int (w)]) (rest := []) ⟨hx, hb, hml, hown, hts⟩ (x_X5_setPints_IO l G cyI cyO h Ad At As Ac L D hn x hx9 w htr) (cwV 2 hts gL_setPints_X5_setPints rfl rfl rfl (by decide +kernel) ⟨Nat.le_of_ble_eq_true rfl, Nat.le_of_ble_eq_true rfl⟩) hK hX hP hD hS hA [0, 1] rfl rfl 0 5 rfl rfl rfl hl.1 rfl (Nat.le_of_ble_eq_true rfl) dL_setPints_3 ⟨Nat.le_refl _, Nat.le_refl _⟩ (fun ce9 q9 H locs hP hD hS hce hcv hcl => ?_)
  refine vx_catch (E := xIO) (name := xIO) hown [] ⟨0, 7, 10, 22⟩ [⟨0, 7, 15, 15⟩] htab (fun _ h9 => nomatch h9) (by decide) (by decide) (hts (.classLink RL 22 xIO) (by decide +kernel)) (va_Nw.use rfl (hX.2.2.2.1 xIO (by decide))) hce hcv hcl ?_
  refine W.eq (g2 := F0 m9 10 ls [.ref q9]) rfl ?_
  refine lv_astore (lv' := [(4, .ref (q9)), (0, .ref (h)), (1, .int (x)), (2, .int (w))]) hx hb dL_setPints_10 hl (by decide) rfl (fun ls hl => ?_)
  refine lv_bipush (v := (-31 : Int32)) hx hb dL_setPints_12 (by decide) ?_
  refine W.widen (k := 1) (n := 6) (by decide) (by decide) ?_
  have hP : va_P G vwCl (cat [[(h, .inr (5, [.ref (Ad 0), .ref (At 0), .ref (As 0), .ref (Ac 0), .ref (L 6 0)]))], dyW cyI Ad D]) H := hP
  have hD : va_D A9 (cat [[(h, .inr (5, [.ref (Ad 0), .ref (At 0), .ref (As 0), .ref (Ac 0), .ref (L 6 0)]))], dyW cyI Ad D]) := hD
  exact end_i hx hb hr hlocks hK hP hD hS (rfl) dL_setPints_14
set_option maxHeartbeats 4000000 in
set_option maxRecDepth 100000 in
theorem t_L_setPints_IA (l : Launch) (G : va_G) (cyI cyO : ClassId) (h : Nat) (Ad At As Ac : Nat → Nat) (L : Nat → Nat → Nat) (D : DS) (hn : D.2.2.2.2.2.1 ≤ 20) (k : Nat) (hk : k < D.2.2.2.2.2.1) (x : Int32) (hx9 : isDig x 1 9 = false) (htr : l.stackTraces = false) : CH l G (TY cyI cyO) yL_setPints wsL_setPints rh_L_setPints [.ref (h), .int (nI (k)), .int (x)] [[(h, .inr (5, [.ref (Ad 0), .ref (At 0), .ref (As 0), .ref (Ac 0), .ref (L 6 0)]))], dyW cyI Ad D] ((-32 : Int32)) [[(h, .inr (5, [.ref (Ad 0), .ref (At 0), .ref (As 0), .ref (Ac 0), .ref (L 6 0)]))], dyW cyI Ad D] := by
  refine wk_H (cc := cL_setPints) (maxL := 5) (ret := (some .int)) (hh := [(0, 7, 10, 22), (0, 7, 15, 15)]) (by decide) rfl (Nat.le_of_ble_eq_true rfl) ?_
  intro p9 e9 s9 m9 b9 t9 c9 A9 ls hx hb hr hts hown hlocks hml hK hA hD hP hl hS hX htab
  have hl : lv_has ls 5 [(0, .ref (h)), (1, .int (nI (k))), (2, .int (x))] := hl
  refine lv_aload_n hx hb dL_setPints_0 rfl (lv_at hl 0 rfl) ?_
  refine lv_iload_n hx hb dL_setPints_1 rfl (lv_at hl 1 rfl) ?_
  refine lv_iload_n hx hb dL_setPints_2 rfl (lv_at hl 2 rfl) ?_
  refine gXV (gs := [[(h, .inr (5, [.ref (Ad 0), .ref (At 0), .ref (As 0), .ref (Ac 0), .ref (L 6 0)]))], dyW cyI Ad D]) (As := [.int (nI (k)), .int (x)]) (rest := []) ⟨hx, hb, hml, hown, hts⟩ (x_X5_setPints_IA l G cyI cyO h Ad At As Ac L D hn k hk x hx9 htr) (cwV 2 hts gL_setPints_X5_setPints rfl rfl rfl (by decide +kernel) ⟨Nat.le_of_ble_eq_true rfl, Nat.le_of_ble_eq_true rfl⟩) hK hX hP hD hS hA [0, 1] rfl rfl 0 5 rfl rfl rfl hl.1 rfl (Nat.le_of_ble_eq_true rfl) dL_setPints_3 ⟨Nat.le_refl _, Nat.le_refl _⟩ (fun ce9 q9 H locs hP hD hS hce hcv hcl => ?_)
  refine vx_catch (E := xIA) (name := xIA) hown [⟨0, 7, 10, 22⟩] ⟨0, 7, 15, 15⟩ [] htab (fun z h9 => by cases List.mem_singleton.mp h9; exact Or.inr ⟨by decide, xIO, hts (.classLink RL 22 xIO) (by decide +kernel), hX.2.2.2.2.2 (xIA, xIO) (by decide)⟩) (by decide) (by decide) (hts (.classLink RL 15 xIA) (by decide +kernel)) (va_Nw.use rfl (hX.2.2.2.1 xIA (by decide))) hce hcv hcl ?_
  refine W.eq (g2 := F0 m9 15 ls [.ref q9]) rfl ?_
  refine lv_astore (lv' := [(4, .ref (q9)), (0, .ref (h)), (1, .int (nI (k))), (2, .int (x))]) hx hb dL_setPints_15 hl (by decide) rfl (fun ls hl => ?_)
  refine lv_bipush (v := (-32 : Int32)) hx hb dL_setPints_17 (by decide) ?_
  refine W.widen (k := 1) (n := 6) (by decide) (by decide) ?_
  have hP : va_P G vwCl (cat [[(h, .inr (5, [.ref (Ad 0), .ref (At 0), .ref (As 0), .ref (Ac 0), .ref (L 6 0)]))], dyW cyI Ad D]) H := hP
  have hD : va_D A9 (cat [[(h, .inr (5, [.ref (Ad 0), .ref (At 0), .ref (As 0), .ref (Ac 0), .ref (L 6 0)]))], dyW cyI Ad D]) := hD
  exact end_i hx hb hr hlocks hK hP hD hS (rfl) dL_setPints_19
abbrev rh_L_come : Room := { frames := 8, cells := 1, slots := 6, locals := 123 }
set_option maxHeartbeats 4000000 in
set_option maxRecDepth 100000 in
theorem n_L_come (l : Launch) (G : va_G) (cyI cyO : ClassId) (h : Nat) (Ad At As Ac : Nat → Nat) (L : Nat → Nat → Nat) (D : DS) (V : HS) (hn : D.2.2.2.2.2.1 ≤ 20) (hV : V.1 ≤ 6) (k : Nat) (hk : k < 6) (hm : (!dHO D && !decide (D.2.2.1 k = 1)) = true) : CH l G (TY cyI cyO) yL_come wsL_come rh_L_come [.ref (h), .int (nI (k))] [[(h, .inr (5, [.ref (Ad 0), .ref (At 0), .ref (As 0), .ref (Ac 0), .ref (L 6 0)]))], dyW cyI Ad D, hiW cyI cyO L V] (nI (cW (upd D.2.2.1 k 1))) [[(h, .inr (5, [.ref (Ad 0), .ref (At 0), .ref (As 0), .ref (Ac 0), .ref (L 6 0)]))], dyW cyI Ad (dWel D k), hiW cyI cyO (svM L V) (svS V D)] := by
  refine wk_H (cc := cL_come) (maxL := 4) (ret := (some .int)) (hh := [(0, 6, 9, 22), (0, 6, 13, 17)]) (by decide) rfl (Nat.le_of_ble_eq_true rfl) ?_
  intro p9 e9 s9 m9 b9 t9 c9 A9 ls hx hb hr hts hown hlocks hml hK hA hD hP hl hS hX htab
  have hl : lv_has ls 4 [(0, .ref (h)), (1, .int (nI (k)))] := hl
  refine lv_aload_n hx hb dL_come_0 rfl (lv_at hl 0 rfl) ?_
  refine lv_iload_n hx hb dL_come_1 rfl (lv_at hl 1 rfl) ?_
  refine gVi (gs := [[(h, .inr (5, [.ref (Ad 0), .ref (At 0), .ref (As 0), .ref (Ac 0), .ref (L 6 0)]))], dyW cyI Ad D, hiW cyI cyO L V]) (As := [.int (nI (k))]) (rest := []) ⟨hx, hb, hml, hown, hts⟩ (c_X5_come l G cyI cyO h Ad At As Ac L D V hn hV k hk hm) (cwV 1 hts gL_come_X5_come rfl rfl rfl (by decide +kernel) ⟨Nat.le_of_ble_eq_true rfl, Nat.le_of_ble_eq_true rfl⟩) hK hP hD hS hA [0, 1, 2] rfl rfl rfl 0 5 rfl rfl rfl hl.1 rfl (Nat.le_of_ble_eq_true rfl) dL_come_2 ⟨Nat.zero_le _, Nat.zero_le _⟩ (fun H locs hP hD hS => ?_)
  have hP : va_P G vwCl (cat [[(h, .inr (5, [.ref (Ad 0), .ref (At 0), .ref (As 0), .ref (Ac 0), .ref (L 6 0)]))], dyW cyI Ad (dWel D k), hiW cyI cyO (svM L V) (svS V D)]) H := hP
  have hD : va_D A9 (cat [[(h, .inr (5, [.ref (Ad 0), .ref (At 0), .ref (As 0), .ref (Ac 0), .ref (L 6 0)]))], dyW cyI Ad (dWel D k), hiW cyI cyO (svM L V) (svS V D)]) := hD
  refine lv_istore_n (lv' := [(2, .int (nI (cW (upd D.2.2.1 k 1)))), (0, .ref (h)), (1, .int (nI (k)))]) hx hb dL_come_5 rfl hl (by decide) rfl (fun ls hl => ?_)
  refine lv_goto (tgt := 17) hx hb dL_come_6 (by decide) ?_
  refine lv_iload_n hx hb dL_come_17 rfl (lv_at hl 0 rfl) ?_
  refine W.widen (k := 1) (n := 6) (by decide) (by decide) ?_
  have hP : va_P G vwCl (cat [[(h, .inr (5, [.ref (Ad 0), .ref (At 0), .ref (As 0), .ref (Ac 0), .ref (L 6 0)]))], dyW cyI Ad (dWel D k), hiW cyI cyO (svM L V) (svS V D)]) H := hP
  have hD : va_D A9 (cat [[(h, .inr (5, [.ref (Ad 0), .ref (At 0), .ref (As 0), .ref (Ac 0), .ref (L 6 0)]))], dyW cyI Ad (dWel D k), hiW cyI cyO (svM L V) (svS V D)]) := hD
  exact end_i hx hb hr hlocks hK hP hD hS (rfl) dL_come_18
set_option maxHeartbeats 4000000 in
set_option maxRecDepth 100000 in
theorem t_L_come_IO (l : Launch) (G : va_G) (cyI cyO : ClassId) (h : Nat) (Ad At As Ac : Nat → Nat) (L : Nat → Nat → Nat) (D : DS) (x : Int32) (hx9 : isDig x 0 5 = false) (htr : l.stackTraces = false) : CH l G (TY cyI cyO) yL_come wsL_come rh_L_come [.ref (h), .int (x)] [[(h, .inr (5, [.ref (Ad 0), .ref (At 0), .ref (As 0), .ref (Ac 0), .ref (L 6 0)]))], dyW cyI Ad D] ((-31 : Int32)) [[(h, .inr (5, [.ref (Ad 0), .ref (At 0), .ref (As 0), .ref (Ac 0), .ref (L 6 0)]))], dyW cyI Ad D] := by
  refine wk_H (cc := cL_come) (maxL := 4) (ret := (some .int)) (hh := [(0, 6, 9, 22), (0, 6, 13, 17)]) (by decide) rfl (Nat.le_of_ble_eq_true rfl) ?_
  intro p9 e9 s9 m9 b9 t9 c9 A9 ls hx hb hr hts hown hlocks hml hK hA hD hP hl hS hX htab
  have hl : lv_has ls 4 [(0, .ref (h)), (1, .int (x))] := hl
  refine lv_aload_n hx hb dL_come_0 rfl (lv_at hl 0 rfl) ?_
  refine lv_iload_n hx hb dL_come_1 rfl (lv_at hl 1 rfl) ?_
  refine gXV (gs := [[(h, .inr (5, [.ref (Ad 0), .ref (At 0), .ref (As 0), .ref (Ac 0), .ref (L 6 0)]))], dyW cyI Ad D]) (As := [.int (x)]) (rest := []) ⟨hx, hb, hml, hown, hts⟩ (x_X5_come_IO l G cyI cyO h Ad At As Ac L D x hx9 htr) (cwV 1 hts gL_come_X5_come rfl rfl rfl (by decide +kernel) ⟨Nat.le_of_ble_eq_true rfl, Nat.le_of_ble_eq_true rfl⟩) hK hX hP hD hS hA [0, 1] rfl rfl 0 5 rfl rfl rfl hl.1 rfl (Nat.le_of_ble_eq_true rfl) dL_come_2 ⟨Nat.le_refl _, Nat.le_refl _⟩ (fun ce9 q9 H locs hP hD hS hce hcv hcl => ?_)
  refine vx_catch (E := xIO) (name := xIO) hown [] ⟨0, 6, 9, 22⟩ [⟨0, 6, 13, 17⟩] htab (fun _ h9 => nomatch h9) (by decide) (by decide) (hts (.classLink RL 22 xIO) (by decide +kernel)) (va_Nw.use rfl (hX.2.2.2.1 xIO (by decide))) hce hcv hcl ?_
  refine W.eq (g2 := F0 m9 9 ls [.ref q9]) rfl ?_
  refine lv_astore_n (lv' := [(3, .ref (q9)), (0, .ref (h)), (1, .int (x))]) hx hb dL_come_9 rfl hl (by decide) rfl (fun ls hl => ?_)
  refine lv_bipush (v := (-31 : Int32)) hx hb dL_come_10 (by decide) ?_
  refine W.widen (k := 1) (n := 6) (by decide) (by decide) ?_
  have hP : va_P G vwCl (cat [[(h, .inr (5, [.ref (Ad 0), .ref (At 0), .ref (As 0), .ref (Ac 0), .ref (L 6 0)]))], dyW cyI Ad D]) H := hP
  have hD : va_D A9 (cat [[(h, .inr (5, [.ref (Ad 0), .ref (At 0), .ref (As 0), .ref (Ac 0), .ref (L 6 0)]))], dyW cyI Ad D]) := hD
  exact end_i hx hb hr hlocks hK hP hD hS (rfl) dL_come_12
set_option maxHeartbeats 4000000 in
set_option maxRecDepth 100000 in
theorem t_L_come_IS (l : Launch) (G : va_G) (cyI cyO : ClassId) (h : Nat) (Ad At As Ac : Nat → Nat) (L : Nat → Nat → Nat) (D : DS) (k : Nat) (hk : k < 6) (hm : (!dHO D && !decide (D.2.2.1 k = 1)) = false) (htr : l.stackTraces = false) : CH l G (TY cyI cyO) yL_come wsL_come rh_L_come [.ref (h), .int (nI (k))] [[(h, .inr (5, [.ref (Ad 0), .ref (At 0), .ref (As 0), .ref (Ac 0), .ref (L 6 0)]))], dyW cyI Ad D] ((-33 : Int32)) [[(h, .inr (5, [.ref (Ad 0), .ref (At 0), .ref (As 0), .ref (Ac 0), .ref (L 6 0)]))], dyW cyI Ad D] := by
  refine wk_H (cc := cL_come) (maxL := 4) (ret := (some .int)) (hh := [(0, 6, 9, 22), (0, 6, 13, 17)]) (by decide) rfl (Nat.le_of_ble_eq_true rfl) ?_
  intro p9 e9 s9 m9 b9 t9 c9 A9 ls hx hb hr hts hown hlocks hml hK hA hD hP hl hS hX htab
  have hl : lv_has ls 4 [(0, .ref (h)), (1, .int (nI (k)))] := hl
  refine lv_aload_n hx hb dL_come_0 rfl (lv_at hl 0 rfl) ?_
  refine lv_iload_n hx hb dL_come_1 rfl (lv_at hl 1 rfl) ?_
  refine gXV (gs := [[(h, .inr (5, [.ref (Ad 0), .ref (At 0), .ref (As 0), .ref (Ac 0), .ref (L 6 0)]))], dyW cyI Ad D]) (As := [.int (nI (k))]) (rest := []) ⟨hx, hb, hml, hown, hts⟩ (x_X5_come_IS l G cyI cyO h Ad At As Ac L D k hk hm htr) (cwV 1 hts gL_come_X5_come rfl rfl rfl (by decide +kernel) ⟨Nat.le_of_ble_eq_true rfl, Nat.le_of_ble_eq_true rfl⟩) hK hX hP hD hS hA [0, 1] rfl rfl 0 5 rfl rfl rfl hl.1 rfl (Nat.le_of_ble_eq_true rfl) dL_come_2 ⟨Nat.le_refl _, Nat.le_refl _⟩ (fun ce9 q9 H locs hP hD hS hce hcv hcl => ?_)
  refine vx_catch (E := xIS) (name := xIS) hown [⟨0, 6, 9, 22⟩] ⟨0, 6, 13, 17⟩ [] htab (fun z h9 => by cases List.mem_singleton.mp h9; exact Or.inr ⟨by decide, xIO, hts (.classLink RL 22 xIO) (by decide +kernel), hX.2.2.2.2.2 (xIS, xIO) (by decide)⟩) (by decide) (by decide) (hts (.classLink RL 17 xIS) (by decide +kernel)) (va_Nw.use rfl (hX.2.2.2.1 xIS (by decide))) hce hcv hcl ?_
  refine W.eq (g2 := F0 m9 13 ls [.ref q9]) rfl ?_
  refine lv_astore_n (lv' := [(3, .ref (q9)), (0, .ref (h)), (1, .int (nI (k)))]) hx hb dL_come_13 rfl hl (by decide) rfl (fun ls hl => ?_)
  refine lv_bipush (v := (-33 : Int32)) hx hb dL_come_14 (by decide) ?_
  refine W.widen (k := 1) (n := 6) (by decide) (by decide) ?_
  have hP : va_P G vwCl (cat [[(h, .inr (5, [.ref (Ad 0), .ref (At 0), .ref (As 0), .ref (Ac 0), .ref (L 6 0)]))], dyW cyI Ad D]) H := hP
  have hD : va_D A9 (cat [[(h, .inr (5, [.ref (Ad 0), .ref (At 0), .ref (As 0), .ref (Ac 0), .ref (L 6 0)]))], dyW cyI Ad D]) := hD
  exact end_i hx hb hr hlocks hK hP hD hS (rfl) dL_come_16
abbrev rh_L_leave : Room := { frames := 8, cells := 1, slots := 6, locals := 123 }
set_option maxHeartbeats 4000000 in
set_option maxRecDepth 100000 in
theorem n_L_leave (l : Launch) (G : va_G) (cyI cyO : ClassId) (h : Nat) (Ad At As Ac : Nat → Nat) (L : Nat → Nat → Nat) (D : DS) (V : HS) (hn : D.2.2.2.2.2.1 ≤ 20) (hV : V.1 ≤ 6) (k : Nat) (hk : k < 6) (hm : (!dHO D && decide (D.2.2.1 k = 1)) = true) : CH l G (TY cyI cyO) yL_leave wsL_leave rh_L_leave [.ref (h), .int (nI (k))] [[(h, .inr (5, [.ref (Ad 0), .ref (At 0), .ref (As 0), .ref (Ac 0), .ref (L 6 0)]))], dyW cyI Ad D, hiW cyI cyO L V] (nI ((dsAll D.2.1 D.2.2.2.2.2.1 (nI k)).2)) [[(h, .inr (5, [.ref (Ad 0), .ref (At 0), .ref (As 0), .ref (Ac 0), .ref (L 6 0)]))], dyW cyI Ad (dDis D k), hiW cyI cyO (svM L V) (svS V D)] := by
  refine wk_H (cc := cL_leave) (maxL := 4) (ret := (some .int)) (hh := [(0, 6, 9, 22), (0, 6, 13, 17)]) (by decide) rfl (Nat.le_of_ble_eq_true rfl) ?_
  intro p9 e9 s9 m9 b9 t9 c9 A9 ls hx hb hr hts hown hlocks hml hK hA hD hP hl hS hX htab
  have hl : lv_has ls 4 [(0, .ref (h)), (1, .int (nI (k)))] := hl
  refine lv_aload_n hx hb dL_leave_0 rfl (lv_at hl 0 rfl) ?_
  refine lv_iload_n hx hb dL_leave_1 rfl (lv_at hl 1 rfl) ?_
  refine gVi (gs := [[(h, .inr (5, [.ref (Ad 0), .ref (At 0), .ref (As 0), .ref (Ac 0), .ref (L 6 0)]))], dyW cyI Ad D, hiW cyI cyO L V]) (As := [.int (nI (k))]) (rest := []) ⟨hx, hb, hml, hown, hts⟩ (c_X5_leave l G cyI cyO h Ad At As Ac L D V hn hV k hk hm) (cwV 1 hts gL_leave_X5_leave rfl rfl rfl (by decide +kernel) ⟨Nat.le_of_ble_eq_true rfl, Nat.le_of_ble_eq_true rfl⟩) hK hP hD hS hA [0, 1, 2] rfl rfl rfl 0 5 rfl rfl rfl hl.1 rfl (Nat.le_of_ble_eq_true rfl) dL_leave_2 ⟨Nat.zero_le _, Nat.zero_le _⟩ (fun H locs hP hD hS => ?_)
  have hP : va_P G vwCl (cat [[(h, .inr (5, [.ref (Ad 0), .ref (At 0), .ref (As 0), .ref (Ac 0), .ref (L 6 0)]))], dyW cyI Ad (dDis D k), hiW cyI cyO (svM L V) (svS V D)]) H := hP
  have hD : va_D A9 (cat [[(h, .inr (5, [.ref (Ad 0), .ref (At 0), .ref (As 0), .ref (Ac 0), .ref (L 6 0)]))], dyW cyI Ad (dDis D k), hiW cyI cyO (svM L V) (svS V D)]) := hD
  refine lv_istore_n (lv' := [(2, .int (nI ((dsAll D.2.1 D.2.2.2.2.2.1 (nI k)).2))), (0, .ref (h)), (1, .int (nI (k)))]) hx hb dL_leave_5 rfl hl (by decide) rfl (fun ls hl => ?_)
  refine lv_goto (tgt := 17) hx hb dL_leave_6 (by decide) ?_
  refine lv_iload_n hx hb dL_leave_17 rfl (lv_at hl 0 rfl) ?_
  refine W.widen (k := 1) (n := 6) (by decide) (by decide) ?_
  have hP : va_P G vwCl (cat [[(h, .inr (5, [.ref (Ad 0), .ref (At 0), .ref (As 0), .ref (Ac 0), .ref (L 6 0)]))], dyW cyI Ad (dDis D k), hiW cyI cyO (svM L V) (svS V D)]) H := hP
  have hD : va_D A9 (cat [[(h, .inr (5, [.ref (Ad 0), .ref (At 0), .ref (As 0), .ref (Ac 0), .ref (L 6 0)]))], dyW cyI Ad (dDis D k), hiW cyI cyO (svM L V) (svS V D)]) := hD
  exact end_i hx hb hr hlocks hK hP hD hS (rfl) dL_leave_18
set_option maxHeartbeats 4000000 in
set_option maxRecDepth 100000 in
theorem t_L_leave_IO (l : Launch) (G : va_G) (cyI cyO : ClassId) (h : Nat) (Ad At As Ac : Nat → Nat) (L : Nat → Nat → Nat) (D : DS) (x : Int32) (hx9 : isDig x 0 5 = false) (htr : l.stackTraces = false) : CH l G (TY cyI cyO) yL_leave wsL_leave rh_L_leave [.ref (h), .int (x)] [[(h, .inr (5, [.ref (Ad 0), .ref (At 0), .ref (As 0), .ref (Ac 0), .ref (L 6 0)]))], dyW cyI Ad D] ((-31 : Int32)) [[(h, .inr (5, [.ref (Ad 0), .ref (At 0), .ref (As 0), .ref (Ac 0), .ref (L 6 0)]))], dyW cyI Ad D] := by
  refine wk_H (cc := cL_leave) (maxL := 4) (ret := (some .int)) (hh := [(0, 6, 9, 22), (0, 6, 13, 17)]) (by decide) rfl (Nat.le_of_ble_eq_true rfl) ?_
  intro p9 e9 s9 m9 b9 t9 c9 A9 ls hx hb hr hts hown hlocks hml hK hA hD hP hl hS hX htab
  have hl : lv_has ls 4 [(0, .ref (h)), (1, .int (x))] := hl
  refine lv_aload_n hx hb dL_leave_0 rfl (lv_at hl 0 rfl) ?_
  refine lv_iload_n hx hb dL_leave_1 rfl (lv_at hl 1 rfl) ?_
  refine gXV (gs := [[(h, .inr (5, [.ref (Ad 0), .ref (At 0), .ref (As 0), .ref (Ac 0), .ref (L 6 0)]))], dyW cyI Ad D]) (As := [.int (x)]) (rest := []) ⟨hx, hb, hml, hown, hts⟩ (x_X5_leave_IO l G cyI cyO h Ad At As Ac L D x hx9 htr) (cwV 1 hts gL_leave_X5_leave rfl rfl rfl (by decide +kernel) ⟨Nat.le_of_ble_eq_true rfl, Nat.le_of_ble_eq_true rfl⟩) hK hX hP hD hS hA [0, 1] rfl rfl 0 5 rfl rfl rfl hl.1 rfl (Nat.le_of_ble_eq_true rfl) dL_leave_2 ⟨Nat.le_refl _, Nat.le_refl _⟩ (fun ce9 q9 H locs hP hD hS hce hcv hcl => ?_)
  refine vx_catch (E := xIO) (name := xIO) hown [] ⟨0, 6, 9, 22⟩ [⟨0, 6, 13, 17⟩] htab (fun _ h9 => nomatch h9) (by decide) (by decide) (hts (.classLink RL 22 xIO) (by decide +kernel)) (va_Nw.use rfl (hX.2.2.2.1 xIO (by decide))) hce hcv hcl ?_
  refine W.eq (g2 := F0 m9 9 ls [.ref q9]) rfl ?_
  refine lv_astore_n (lv' := [(3, .ref (q9)), (0, .ref (h)), (1, .int (x))]) hx hb dL_leave_9 rfl hl (by decide) rfl (fun ls hl => ?_)
  refine lv_bipush (v := (-31 : Int32)) hx hb dL_leave_10 (by decide) ?_
  refine W.widen (k := 1) (n := 6) (by decide) (by decide) ?_
  have hP : va_P G vwCl (cat [[(h, .inr (5, [.ref (Ad 0), .ref (At 0), .ref (As 0), .ref (Ac 0), .ref (L 6 0)]))], dyW cyI Ad D]) H := hP
  have hD : va_D A9 (cat [[(h, .inr (5, [.ref (Ad 0), .ref (At 0), .ref (As 0), .ref (Ac 0), .ref (L 6 0)]))], dyW cyI Ad D]) := hD
  exact end_i hx hb hr hlocks hK hP hD hS (rfl) dL_leave_12
set_option maxHeartbeats 4000000 in
set_option maxRecDepth 100000 in
theorem t_L_leave_IS (l : Launch) (G : va_G) (cyI cyO : ClassId) (h : Nat) (Ad At As Ac : Nat → Nat) (L : Nat → Nat → Nat) (D : DS) (k : Nat) (hk : k < 6) (hm : (!dHO D && decide (D.2.2.1 k = 1)) = false) (htr : l.stackTraces = false) : CH l G (TY cyI cyO) yL_leave wsL_leave rh_L_leave [.ref (h), .int (nI (k))] [[(h, .inr (5, [.ref (Ad 0), .ref (At 0), .ref (As 0), .ref (Ac 0), .ref (L 6 0)]))], dyW cyI Ad D] ((-33 : Int32)) [[(h, .inr (5, [.ref (Ad 0), .ref (At 0), .ref (As 0), .ref (Ac 0), .ref (L 6 0)]))], dyW cyI Ad D] := by
  refine wk_H (cc := cL_leave) (maxL := 4) (ret := (some .int)) (hh := [(0, 6, 9, 22), (0, 6, 13, 17)]) (by decide) rfl (Nat.le_of_ble_eq_true rfl) ?_
  intro p9 e9 s9 m9 b9 t9 c9 A9 ls hx hb hr hts hown hlocks hml hK hA hD hP hl hS hX htab
  have hl : lv_has ls 4 [(0, .ref (h)), (1, .int (nI (k)))] := hl
  refine lv_aload_n hx hb dL_leave_0 rfl (lv_at hl 0 rfl) ?_
  refine lv_iload_n hx hb dL_leave_1 rfl (lv_at hl 1 rfl) ?_
  refine gXV (gs := [[(h, .inr (5, [.ref (Ad 0), .ref (At 0), .ref (As 0), .ref (Ac 0), .ref (L 6 0)]))], dyW cyI Ad D]) (As := [.int (nI (k))]) (rest := []) ⟨hx, hb, hml, hown, hts⟩ (x_X5_leave_IS l G cyI cyO h Ad At As Ac L D k hk hm htr) (cwV 1 hts gL_leave_X5_leave rfl rfl rfl (by decide +kernel) ⟨Nat.le_of_ble_eq_true rfl, Nat.le_of_ble_eq_true rfl⟩) hK hX hP hD hS hA [0, 1] rfl rfl 0 5 rfl rfl rfl hl.1 rfl (Nat.le_of_ble_eq_true rfl) dL_leave_2 ⟨Nat.le_refl _, Nat.le_refl _⟩ (fun ce9 q9 H locs hP hD hS hce hcv hcl => ?_)
  refine vx_catch (E := xIS) (name := xIS) hown [⟨0, 6, 9, 22⟩] ⟨0, 6, 13, 17⟩ [] htab (fun z h9 => by cases List.mem_singleton.mp h9; exact Or.inr ⟨by decide, xIO, hts (.classLink RL 22 xIO) (by decide +kernel), hX.2.2.2.2.2 (xIS, xIO) (by decide)⟩) (by decide) (by decide) (hts (.classLink RL 17 xIS) (by decide +kernel)) (va_Nw.use rfl (hX.2.2.2.1 xIS (by decide))) hce hcv hcl ?_
  refine W.eq (g2 := F0 m9 13 ls [.ref q9]) rfl ?_
  refine lv_astore_n (lv' := [(3, .ref (q9)), (0, .ref (h)), (1, .int (nI (k)))]) hx hb dL_leave_13 rfl hl (by decide) rfl (fun ls hl => ?_)
  refine lv_bipush (v := (-33 : Int32)) hx hb dL_leave_14 (by decide) ?_
  refine W.widen (k := 1) (n := 6) (by decide) (by decide) ?_
  have hP : va_P G vwCl (cat [[(h, .inr (5, [.ref (Ad 0), .ref (At 0), .ref (As 0), .ref (Ac 0), .ref (L 6 0)]))], dyW cyI Ad D]) H := hP
  have hD : va_D A9 (cat [[(h, .inr (5, [.ref (Ad 0), .ref (At 0), .ref (As 0), .ref (Ac 0), .ref (L 6 0)]))], dyW cyI Ad D]) := hD
  exact end_i hx hb hr hlocks hK hP hD hS (rfl) dL_leave_16
abbrev rh_L_plan : Room := { frames := 7, cells := 1, slots := 6, locals := 133 }
set_option maxHeartbeats 4000000 in
set_option maxRecDepth 100000 in
theorem n_L_plan (l : Launch) (G : va_G) (cyI cyO : ClassId) (h : Nat) (Ad At As Ac : Nat → Nat) (L : Nat → Nat → Nat) (S : SS) (D : DS) (V : HS) (hn : D.2.2.2.2.2.1 ≤ 20) (hV : V.1 ≤ 6) (hm : (!dHO D && decide (0 < cW D.2.2.1)) = true) : CH l G (TY cyI cyO) yL_plan wsL_plan rh_L_plan [.ref (h)] [[(h, .inr (5, [.ref (Ad 0), .ref (At 0), .ref (As 0), .ref (Ac 0), .ref (L 6 0)]))], shW cyI As S, dyW cyI Ad D, hiW cyI cyO L V] (shRes S D) [[(h, .inr (5, [.ref (Ad 0), .ref (At 0), .ref (As 0), .ref (Ac 0), .ref (L 6 0)]))], shW cyI As (shOut S D), dyW cyI Ad (mpD S D), hiW cyI cyO (svM L V) (svS V D)] := by
  refine wk_H (cc := cL_plan) (maxL := 3) (ret := (some .int)) (hh := [(0, 5, 8, 17)]) (by decide) rfl (Nat.le_of_ble_eq_true rfl) ?_
  intro p9 e9 s9 m9 b9 t9 c9 A9 ls hx hb hr hts hown hlocks hml hK hA hD hP hl hS hX htab
  have hl : lv_has ls 3 [(0, .ref (h))] := hl
  refine lv_aload_n hx hb dL_plan_0 rfl (lv_at hl 0 rfl) ?_
  refine gVi (gs := [[(h, .inr (5, [.ref (Ad 0), .ref (At 0), .ref (As 0), .ref (Ac 0), .ref (L 6 0)]))], shW cyI As S, dyW cyI Ad D, hiW cyI cyO L V]) (As := []) (rest := []) ⟨hx, hb, hml, hown, hts⟩ (c_X5_plan l G cyI cyO h Ad At As Ac L S D V hn hV hm) (cwV 0 hts gL_plan_X5_plan rfl rfl rfl (by decide +kernel) ⟨Nat.le_of_ble_eq_true rfl, Nat.le_of_ble_eq_true rfl⟩) hK hP hD hS hA [0, 1, 2, 3] rfl rfl rfl 0 5 rfl rfl rfl hl.1 rfl (Nat.le_of_ble_eq_true rfl) dL_plan_1 ⟨Nat.zero_le _, Nat.zero_le _⟩ (fun H locs hP hD hS => ?_)
  have hP : va_P G vwCl (cat [[(h, .inr (5, [.ref (Ad 0), .ref (At 0), .ref (As 0), .ref (Ac 0), .ref (L 6 0)]))], shW cyI As (shOut S D), dyW cyI Ad (mpD S D), hiW cyI cyO (svM L V) (svS V D)]) H := hP
  have hD : va_D A9 (cat [[(h, .inr (5, [.ref (Ad 0), .ref (At 0), .ref (As 0), .ref (Ac 0), .ref (L 6 0)]))], shW cyI As (shOut S D), dyW cyI Ad (mpD S D), hiW cyI cyO (svM L V) (svS V D)]) := hD
  refine lv_istore_n (lv' := [(1, .int (shRes S D)), (0, .ref (h))]) hx hb dL_plan_4 rfl hl (by decide) rfl (fun ls hl => ?_)
  refine lv_goto (tgt := 12) hx hb dL_plan_5 (by decide) ?_
  refine lv_iload_n hx hb dL_plan_12 rfl (lv_at hl 0 rfl) ?_
  refine W.widen (k := 1) (n := 6) (by decide) (by decide) ?_
  have hP : va_P G vwCl (cat [[(h, .inr (5, [.ref (Ad 0), .ref (At 0), .ref (As 0), .ref (Ac 0), .ref (L 6 0)]))], shW cyI As (shOut S D), dyW cyI Ad (mpD S D), hiW cyI cyO (svM L V) (svS V D)]) H := hP
  have hD : va_D A9 (cat [[(h, .inr (5, [.ref (Ad 0), .ref (At 0), .ref (As 0), .ref (Ac 0), .ref (L 6 0)]))], shW cyI As (shOut S D), dyW cyI Ad (mpD S D), hiW cyI cyO (svM L V) (svS V D)]) := hD
  exact end_i hx hb hr hlocks hK hP hD hS (rfl) dL_plan_13
set_option maxHeartbeats 4000000 in
set_option maxRecDepth 100000 in
theorem t_L_plan_IS (l : Launch) (G : va_G) (cyI cyO : ClassId) (h : Nat) (Ad At As Ac : Nat → Nat) (L : Nat → Nat → Nat) (D : DS) (hm : (!dHO D && decide (0 < cW D.2.2.1)) = false) (htr : l.stackTraces = false) : CH l G (TY cyI cyO) yL_plan wsL_plan rh_L_plan [.ref (h)] [[(h, .inr (5, [.ref (Ad 0), .ref (At 0), .ref (As 0), .ref (Ac 0), .ref (L 6 0)]))], dyW cyI Ad D] ((-33 : Int32)) [[(h, .inr (5, [.ref (Ad 0), .ref (At 0), .ref (As 0), .ref (Ac 0), .ref (L 6 0)]))], dyW cyI Ad D] := by
  refine wk_H (cc := cL_plan) (maxL := 3) (ret := (some .int)) (hh := [(0, 5, 8, 17)]) (by decide) rfl (Nat.le_of_ble_eq_true rfl) ?_
  intro p9 e9 s9 m9 b9 t9 c9 A9 ls hx hb hr hts hown hlocks hml hK hA hD hP hl hS hX htab
  have hl : lv_has ls 3 [(0, .ref (h))] := hl
  refine lv_aload_n hx hb dL_plan_0 rfl (lv_at hl 0 rfl) ?_
  refine gXV (gs := [[(h, .inr (5, [.ref (Ad 0), .ref (At 0), .ref (As 0), .ref (Ac 0), .ref (L 6 0)]))], dyW cyI Ad D]) (As := []) (rest := []) ⟨hx, hb, hml, hown, hts⟩ (x_X5_plan_IS l G cyI cyO h Ad At As Ac L D hm htr) (cwV 0 hts gL_plan_X5_plan rfl rfl rfl (by decide +kernel) ⟨Nat.le_of_ble_eq_true rfl, Nat.le_of_ble_eq_true rfl⟩) hK hX hP hD hS hA [0, 1] rfl rfl 0 5 rfl rfl rfl hl.1 rfl (Nat.le_of_ble_eq_true rfl) dL_plan_1 ⟨Nat.le_refl _, Nat.le_refl _⟩ (fun ce9 q9 H locs hP hD hS hce hcv hcl => ?_)
  refine vx_catch (E := xIS) (name := xIS) hown [] ⟨0, 5, 8, 17⟩ [] htab (fun _ h9 => nomatch h9) (by decide) (by decide) (hts (.classLink RL 17 xIS) (by decide +kernel)) (va_Nw.use rfl (hX.2.2.2.1 xIS (by decide))) hce hcv hcl ?_
  refine W.eq (g2 := F0 m9 8 ls [.ref q9]) rfl ?_
  refine lv_astore_n (lv' := [(2, .ref (q9)), (0, .ref (h))]) hx hb dL_plan_8 rfl hl (by decide) rfl (fun ls hl => ?_)
  refine lv_bipush (v := (-33 : Int32)) hx hb dL_plan_9 (by decide) ?_
  refine W.widen (k := 1) (n := 6) (by decide) (by decide) ?_
  have hP : va_P G vwCl (cat [[(h, .inr (5, [.ref (Ad 0), .ref (At 0), .ref (As 0), .ref (Ac 0), .ref (L 6 0)]))], dyW cyI Ad D]) H := hP
  have hD : va_D A9 (cat [[(h, .inr (5, [.ref (Ad 0), .ref (At 0), .ref (As 0), .ref (Ac 0), .ref (L 6 0)]))], dyW cyI Ad D]) := hD
  exact end_i hx hb hr hlocks hK hP hD hS (rfl) dL_plan_11
abbrev rh_L_handOver : Room := { frames := 7, cells := 1, slots := 6, locals := 106 }
set_option maxHeartbeats 4000000 in
set_option maxRecDepth 100000 in
theorem n_L_handOver (l : Launch) (G : va_G) (cyI cyO : ClassId) (h : Nat) (Ad At As Ac : Nat → Nat) (L : Nat → Nat → Nat) (D : DS) (V : HS) (hn : D.2.2.2.2.2.1 ≤ 20) (hV : V.1 ≤ 6) (hm : dHO D = true) : CH l G (TY cyI cyO) yL_handOver wsL_handOver rh_L_handOver [.ref (h)] [[(h, .inr (5, [.ref (Ad 0), .ref (At 0), .ref (As 0), .ref (Ac 0), .ref (L 6 0)]))], dyW cyI Ad D, hiW cyI cyO L V] (nI (dNextR D)) [[(h, .inr (5, [.ref (Ad 0), .ref (At 0), .ref (As 0), .ref (Ac 0), .ref (L 6 0)]))], dyW cyI Ad (dNext D), hiW cyI cyO (svM L V) (svS V D)] := by
  refine wk_H (cc := cL_handOver) (maxL := 3) (ret := (some .int)) (hh := [(0, 5, 8, 17)]) (by decide) rfl (Nat.le_of_ble_eq_true rfl) ?_
  intro p9 e9 s9 m9 b9 t9 c9 A9 ls hx hb hr hts hown hlocks hml hK hA hD hP hl hS hX htab
  have hl : lv_has ls 3 [(0, .ref (h))] := hl
  refine lv_aload_n hx hb dL_handOver_0 rfl (lv_at hl 0 rfl) ?_
  refine gVi (gs := [[(h, .inr (5, [.ref (Ad 0), .ref (At 0), .ref (As 0), .ref (Ac 0), .ref (L 6 0)]))], dyW cyI Ad D, hiW cyI cyO L V]) (As := []) (rest := []) ⟨hx, hb, hml, hown, hts⟩ (c_X5_handOver l G cyI cyO h Ad At As Ac L D V hn hV hm) (cwV 0 hts gL_handOver_X5_handOver rfl rfl rfl (by decide +kernel) ⟨Nat.le_of_ble_eq_true rfl, Nat.le_of_ble_eq_true rfl⟩) hK hP hD hS hA [0, 1, 2] rfl rfl rfl 0 5 rfl rfl rfl hl.1 rfl (Nat.le_of_ble_eq_true rfl) dL_handOver_1 ⟨Nat.zero_le _, Nat.zero_le _⟩ (fun H locs hP hD hS => ?_)
  have hP : va_P G vwCl (cat [[(h, .inr (5, [.ref (Ad 0), .ref (At 0), .ref (As 0), .ref (Ac 0), .ref (L 6 0)]))], dyW cyI Ad (dNext D), hiW cyI cyO (svM L V) (svS V D)]) H := hP
  have hD : va_D A9 (cat [[(h, .inr (5, [.ref (Ad 0), .ref (At 0), .ref (As 0), .ref (Ac 0), .ref (L 6 0)]))], dyW cyI Ad (dNext D), hiW cyI cyO (svM L V) (svS V D)]) := hD
  refine lv_istore_n (lv' := [(1, .int (nI (dNextR D))), (0, .ref (h))]) hx hb dL_handOver_4 rfl hl (by decide) rfl (fun ls hl => ?_)
  refine lv_goto (tgt := 12) hx hb dL_handOver_5 (by decide) ?_
  refine lv_iload_n hx hb dL_handOver_12 rfl (lv_at hl 0 rfl) ?_
  refine W.widen (k := 1) (n := 6) (by decide) (by decide) ?_
  have hP : va_P G vwCl (cat [[(h, .inr (5, [.ref (Ad 0), .ref (At 0), .ref (As 0), .ref (Ac 0), .ref (L 6 0)]))], dyW cyI Ad (dNext D), hiW cyI cyO (svM L V) (svS V D)]) H := hP
  have hD : va_D A9 (cat [[(h, .inr (5, [.ref (Ad 0), .ref (At 0), .ref (As 0), .ref (Ac 0), .ref (L 6 0)]))], dyW cyI Ad (dNext D), hiW cyI cyO (svM L V) (svS V D)]) := hD
  exact end_i hx hb hr hlocks hK hP hD hS (rfl) dL_handOver_13
set_option maxHeartbeats 4000000 in
set_option maxRecDepth 100000 in
theorem t_L_handOver_IS (l : Launch) (G : va_G) (cyI cyO : ClassId) (h : Nat) (Ad At As Ac : Nat → Nat) (L : Nat → Nat → Nat) (D : DS) (hm : dHO D = false) (htr : l.stackTraces = false) : CH l G (TY cyI cyO) yL_handOver wsL_handOver rh_L_handOver [.ref (h)] [[(h, .inr (5, [.ref (Ad 0), .ref (At 0), .ref (As 0), .ref (Ac 0), .ref (L 6 0)]))], dyW cyI Ad D] ((-33 : Int32)) [[(h, .inr (5, [.ref (Ad 0), .ref (At 0), .ref (As 0), .ref (Ac 0), .ref (L 6 0)]))], dyW cyI Ad D] := by
  refine wk_H (cc := cL_handOver) (maxL := 3) (ret := (some .int)) (hh := [(0, 5, 8, 17)]) (by decide) rfl (Nat.le_of_ble_eq_true rfl) ?_
  intro p9 e9 s9 m9 b9 t9 c9 A9 ls hx hb hr hts hown hlocks hml hK hA hD hP hl hS hX htab
  have hl : lv_has ls 3 [(0, .ref (h))] := hl
  refine lv_aload_n hx hb dL_handOver_0 rfl (lv_at hl 0 rfl) ?_
  refine gXV (gs := [[(h, .inr (5, [.ref (Ad 0), .ref (At 0), .ref (As 0), .ref (Ac 0), .ref (L 6 0)]))], dyW cyI Ad D]) (As := []) (rest := []) ⟨hx, hb, hml, hown, hts⟩ (x_X5_handOver_IS l G cyI cyO h Ad At As Ac L D hm htr) (cwV 0 hts gL_handOver_X5_handOver rfl rfl rfl (by decide +kernel) ⟨Nat.le_of_ble_eq_true rfl, Nat.le_of_ble_eq_true rfl⟩) hK hX hP hD hS hA [0, 1] rfl rfl 0 5 rfl rfl rfl hl.1 rfl (Nat.le_of_ble_eq_true rfl) dL_handOver_1 ⟨Nat.le_refl _, Nat.le_refl _⟩ (fun ce9 q9 H locs hP hD hS hce hcv hcl => ?_)
  refine vx_catch (E := xIS) (name := xIS) hown [] ⟨0, 5, 8, 17⟩ [] htab (fun _ h9 => nomatch h9) (by decide) (by decide) (hts (.classLink RL 17 xIS) (by decide +kernel)) (va_Nw.use rfl (hX.2.2.2.1 xIS (by decide))) hce hcv hcl ?_
  refine W.eq (g2 := F0 m9 8 ls [.ref q9]) rfl ?_
  refine lv_astore_n (lv' := [(2, .ref (q9)), (0, .ref (h))]) hx hb dL_handOver_8 rfl hl (by decide) rfl (fun ls hl => ?_)
  refine lv_bipush (v := (-33 : Int32)) hx hb dL_handOver_9 (by decide) ?_
  refine W.widen (k := 1) (n := 6) (by decide) (by decide) ?_
  have hP : va_P G vwCl (cat [[(h, .inr (5, [.ref (Ad 0), .ref (At 0), .ref (As 0), .ref (Ac 0), .ref (L 6 0)]))], dyW cyI Ad D]) H := hP
  have hD : va_D A9 (cat [[(h, .inr (5, [.ref (Ad 0), .ref (At 0), .ref (As 0), .ref (Ac 0), .ref (L 6 0)]))], dyW cyI Ad D]) := hD
  exact end_i hx hb hr hlocks hK hP hD hS (rfl) dL_handOver_11
abbrev rh_L_callOff : Room := { frames := 7, cells := 1, slots := 6, locals := 106 }
set_option maxHeartbeats 4000000 in
set_option maxRecDepth 100000 in
theorem n_L_callOff (l : Launch) (G : va_G) (cyI cyO : ClassId) (h : Nat) (Ad At As Ac : Nat → Nat) (L : Nat → Nat → Nat) (D : DS) (V : HS) (hn : D.2.2.2.2.2.1 ≤ 20) (hV : V.1 ≤ 6) (hm : dHO D = true) : CH l G (TY cyI cyO) yL_callOff wsL_callOff rh_L_callOff [.ref (h)] [[(h, .inr (5, [.ref (Ad 0), .ref (At 0), .ref (As 0), .ref (Ac 0), .ref (L 6 0)]))], dyW cyI Ad D, hiW cyI cyO L V] (nI ((mvAll D.2.2.2.2.1 D.2.1 D.2.2.2.2.2.1).2)) [[(h, .inr (5, [.ref (Ad 0), .ref (At 0), .ref (As 0), .ref (Ac 0), .ref (L 6 0)]))], dyW cyI Ad (dBack D), hiW cyI cyO (svM L V) (svS V D)] := by
  refine wk_H (cc := cL_callOff) (maxL := 3) (ret := (some .int)) (hh := [(0, 5, 8, 17)]) (by decide) rfl (Nat.le_of_ble_eq_true rfl) ?_
  intro p9 e9 s9 m9 b9 t9 c9 A9 ls hx hb hr hts hown hlocks hml hK hA hD hP hl hS hX htab
  have hl : lv_has ls 3 [(0, .ref (h))] := hl
  refine lv_aload_n hx hb dL_callOff_0 rfl (lv_at hl 0 rfl) ?_
  refine gVi (gs := [[(h, .inr (5, [.ref (Ad 0), .ref (At 0), .ref (As 0), .ref (Ac 0), .ref (L 6 0)]))], dyW cyI Ad D, hiW cyI cyO L V]) (As := []) (rest := []) ⟨hx, hb, hml, hown, hts⟩ (c_X5_callOff l G cyI cyO h Ad At As Ac L D V hn hV hm) (cwV 0 hts gL_callOff_X5_callOff rfl rfl rfl (by decide +kernel) ⟨Nat.le_of_ble_eq_true rfl, Nat.le_of_ble_eq_true rfl⟩) hK hP hD hS hA [0, 1, 2] rfl rfl rfl 0 5 rfl rfl rfl hl.1 rfl (Nat.le_of_ble_eq_true rfl) dL_callOff_1 ⟨Nat.zero_le _, Nat.zero_le _⟩ (fun H locs hP hD hS => ?_)
  have hP : va_P G vwCl (cat [[(h, .inr (5, [.ref (Ad 0), .ref (At 0), .ref (As 0), .ref (Ac 0), .ref (L 6 0)]))], dyW cyI Ad (dBack D), hiW cyI cyO (svM L V) (svS V D)]) H := hP
  have hD : va_D A9 (cat [[(h, .inr (5, [.ref (Ad 0), .ref (At 0), .ref (As 0), .ref (Ac 0), .ref (L 6 0)]))], dyW cyI Ad (dBack D), hiW cyI cyO (svM L V) (svS V D)]) := hD
  refine lv_istore_n (lv' := [(1, .int (nI ((mvAll D.2.2.2.2.1 D.2.1 D.2.2.2.2.2.1).2))), (0, .ref (h))]) hx hb dL_callOff_4 rfl hl (by decide) rfl (fun ls hl => ?_)
  refine lv_goto (tgt := 12) hx hb dL_callOff_5 (by decide) ?_
  refine lv_iload_n hx hb dL_callOff_12 rfl (lv_at hl 0 rfl) ?_
  refine W.widen (k := 1) (n := 6) (by decide) (by decide) ?_
  have hP : va_P G vwCl (cat [[(h, .inr (5, [.ref (Ad 0), .ref (At 0), .ref (As 0), .ref (Ac 0), .ref (L 6 0)]))], dyW cyI Ad (dBack D), hiW cyI cyO (svM L V) (svS V D)]) H := hP
  have hD : va_D A9 (cat [[(h, .inr (5, [.ref (Ad 0), .ref (At 0), .ref (As 0), .ref (Ac 0), .ref (L 6 0)]))], dyW cyI Ad (dBack D), hiW cyI cyO (svM L V) (svS V D)]) := hD
  exact end_i hx hb hr hlocks hK hP hD hS (rfl) dL_callOff_13
set_option maxHeartbeats 4000000 in
set_option maxRecDepth 100000 in
theorem t_L_callOff_IS (l : Launch) (G : va_G) (cyI cyO : ClassId) (h : Nat) (Ad At As Ac : Nat → Nat) (L : Nat → Nat → Nat) (D : DS) (hm : dHO D = false) (htr : l.stackTraces = false) : CH l G (TY cyI cyO) yL_callOff wsL_callOff rh_L_callOff [.ref (h)] [[(h, .inr (5, [.ref (Ad 0), .ref (At 0), .ref (As 0), .ref (Ac 0), .ref (L 6 0)]))], dyW cyI Ad D] ((-33 : Int32)) [[(h, .inr (5, [.ref (Ad 0), .ref (At 0), .ref (As 0), .ref (Ac 0), .ref (L 6 0)]))], dyW cyI Ad D] := by
  refine wk_H (cc := cL_callOff) (maxL := 3) (ret := (some .int)) (hh := [(0, 5, 8, 17)]) (by decide) rfl (Nat.le_of_ble_eq_true rfl) ?_
  intro p9 e9 s9 m9 b9 t9 c9 A9 ls hx hb hr hts hown hlocks hml hK hA hD hP hl hS hX htab
  have hl : lv_has ls 3 [(0, .ref (h))] := hl
  refine lv_aload_n hx hb dL_callOff_0 rfl (lv_at hl 0 rfl) ?_
  refine gXV (gs := [[(h, .inr (5, [.ref (Ad 0), .ref (At 0), .ref (As 0), .ref (Ac 0), .ref (L 6 0)]))], dyW cyI Ad D]) (As := []) (rest := []) ⟨hx, hb, hml, hown, hts⟩ (x_X5_callOff_IS l G cyI cyO h Ad At As Ac L D hm htr) (cwV 0 hts gL_callOff_X5_callOff rfl rfl rfl (by decide +kernel) ⟨Nat.le_of_ble_eq_true rfl, Nat.le_of_ble_eq_true rfl⟩) hK hX hP hD hS hA [0, 1] rfl rfl 0 5 rfl rfl rfl hl.1 rfl (Nat.le_of_ble_eq_true rfl) dL_callOff_1 ⟨Nat.le_refl _, Nat.le_refl _⟩ (fun ce9 q9 H locs hP hD hS hce hcv hcl => ?_)
  refine vx_catch (E := xIS) (name := xIS) hown [] ⟨0, 5, 8, 17⟩ [] htab (fun _ h9 => nomatch h9) (by decide) (by decide) (hts (.classLink RL 17 xIS) (by decide +kernel)) (va_Nw.use rfl (hX.2.2.2.1 xIS (by decide))) hce hcv hcl ?_
  refine W.eq (g2 := F0 m9 8 ls [.ref q9]) rfl ?_
  refine lv_astore_n (lv' := [(2, .ref (q9)), (0, .ref (h))]) hx hb dL_callOff_8 rfl hl (by decide) rfl (fun ls hl => ?_)
  refine lv_bipush (v := (-33 : Int32)) hx hb dL_callOff_9 (by decide) ?_
  refine W.widen (k := 1) (n := 6) (by decide) (by decide) ?_
  have hP : va_P G vwCl (cat [[(h, .inr (5, [.ref (Ad 0), .ref (At 0), .ref (As 0), .ref (Ac 0), .ref (L 6 0)]))], dyW cyI Ad D]) H := hP
  have hD : va_D A9 (cat [[(h, .inr (5, [.ref (Ad 0), .ref (At 0), .ref (As 0), .ref (Ac 0), .ref (L 6 0)]))], dyW cyI Ad D]) := hD
  exact end_i hx hb hr hlocks hK hP hD hS (rfl) dL_callOff_11
abbrev rh_L_undo : Room := { frames := 7, cells := 1, slots := 6, locals := 106 }
set_option maxHeartbeats 4000000 in
set_option maxRecDepth 100000 in
theorem t_L_undo_IS (l : Launch) (G : va_G) (cyI cyO : ClassId) (h : Nat) (Ad At As Ac : Nat → Nat) (L : Nat → Nat → Nat) (V : HS) (hV : V.1 = 0) (htr : l.stackTraces = false) : CH l G (TY cyI cyO) yL_undo wsL_undo rh_L_undo [.ref (h)] [[(h, .inr (5, [.ref (Ad 0), .ref (At 0), .ref (As 0), .ref (Ac 0), .ref (L 6 0)]))], hiW cyI cyO L V] ((-33 : Int32)) [[(h, .inr (5, [.ref (Ad 0), .ref (At 0), .ref (As 0), .ref (Ac 0), .ref (L 6 0)]))], hiW cyI cyO L V] := by
  refine wk_H (cc := cL_undo) (maxL := 3) (ret := (some .int)) (hh := [(0, 5, 8, 17)]) (by decide) rfl (Nat.le_of_ble_eq_true rfl) ?_
  intro p9 e9 s9 m9 b9 t9 c9 A9 ls hx hb hr hts hown hlocks hml hK hA hD hP hl hS hX htab
  have hl : lv_has ls 3 [(0, .ref (h))] := hl
  refine lv_aload_n hx hb dL_undo_0 rfl (lv_at hl 0 rfl) ?_
  refine gXV (gs := [[(h, .inr (5, [.ref (Ad 0), .ref (At 0), .ref (As 0), .ref (Ac 0), .ref (L 6 0)]))], hiW cyI cyO L V]) (As := []) (rest := []) ⟨hx, hb, hml, hown, hts⟩ (x_X5_undo_IS l G cyI cyO h Ad At As Ac L V hV htr) (cwV 0 hts gL_undo_X5_undo rfl rfl rfl (by decide +kernel) ⟨Nat.le_of_ble_eq_true rfl, Nat.le_of_ble_eq_true rfl⟩) hK hX hP hD hS hA [0, 1] rfl rfl 0 5 rfl rfl rfl hl.1 rfl (Nat.le_of_ble_eq_true rfl) dL_undo_1 ⟨Nat.le_refl _, Nat.le_refl _⟩ (fun ce9 q9 H locs hP hD hS hce hcv hcl => ?_)
  refine vx_catch (E := xIS) (name := xIS) hown [] ⟨0, 5, 8, 17⟩ [] htab (fun _ h9 => nomatch h9) (by decide) (by decide) (hts (.classLink RL 17 xIS) (by decide +kernel)) (va_Nw.use rfl (hX.2.2.2.1 xIS (by decide))) hce hcv hcl ?_
  refine W.eq (g2 := F0 m9 8 ls [.ref q9]) rfl ?_
  refine lv_astore_n (lv' := [(2, .ref (q9)), (0, .ref (h))]) hx hb dL_undo_8 rfl hl (by decide) rfl (fun ls hl => ?_)
  refine lv_bipush (v := (-33 : Int32)) hx hb dL_undo_9 (by decide) ?_
  refine W.widen (k := 1) (n := 6) (by decide) (by decide) ?_
  have hP : va_P G vwCl (cat [[(h, .inr (5, [.ref (Ad 0), .ref (At 0), .ref (As 0), .ref (Ac 0), .ref (L 6 0)]))], hiW cyI cyO L V]) H := hP
  have hD : va_D A9 (cat [[(h, .inr (5, [.ref (Ad 0), .ref (At 0), .ref (As 0), .ref (Ac 0), .ref (L 6 0)]))], hiW cyI cyO L V]) := hD
  exact end_i hx hb hr hlocks hK hP hD hS (rfl) dL_undo_11
abbrev rh_L_owner : Room := { frames := 8, cells := 1, slots := 6, locals := 124 }
set_option maxHeartbeats 4000000 in
set_option maxRecDepth 100000 in
theorem t_L_owner_IO (l : Launch) (G : va_G) (cyI cyO : ClassId) (h : Nat) (Ad At As Ac : Nat → Nat) (L : Nat → Nat → Nat) (D : DS) (hn : D.2.2.2.2.2.1 ≤ 20) (x : Int32) (hx9 : dHas D.2.2.2.2.2.1 x = false) (htr : l.stackTraces = false) : CH l G (TY cyI cyO) yL_owner wsL_owner rh_L_owner [.ref (h), .int (x)] [[(h, .inr (5, [.ref (Ad 0), .ref (At 0), .ref (As 0), .ref (Ac 0), .ref (L 6 0)]))], dyW cyI Ad D] ((-31 : Int32)) [[(h, .inr (5, [.ref (Ad 0), .ref (At 0), .ref (As 0), .ref (Ac 0), .ref (L 6 0)]))], dyW cyI Ad D] := by
  refine wk_H (cc := cL_owner) (maxL := 4) (ret := (some .int)) (hh := [(0, 6, 9, 22)]) (by decide) rfl (Nat.le_of_ble_eq_true rfl) ?_
  intro p9 e9 s9 m9 b9 t9 c9 A9 ls hx hb hr hts hown hlocks hml hK hA hD hP hl hS hX htab
  have hl : lv_has ls 4 [(0, .ref (h)), (1, .int (x))] := hl
  refine lv_aload_n hx hb dL_owner_0 rfl (lv_at hl 0 rfl) ?_
  refine lv_iload_n hx hb dL_owner_1 rfl (lv_at hl 1 rfl) ?_
  refine gXV (gs := [[(h, .inr (5, [.ref (Ad 0), .ref (At 0), .ref (As 0), .ref (Ac 0), .ref (L 6 0)]))], dyW cyI Ad D]) (As := [.int (x)]) (rest := []) ⟨hx, hb, hml, hown, hts⟩ (x_X5_owner_IO l G cyI cyO h Ad At As Ac L D hn x hx9 htr) (cwV 1 hts gL_owner_X5_owner rfl rfl rfl (by decide +kernel) ⟨Nat.le_of_ble_eq_true rfl, Nat.le_of_ble_eq_true rfl⟩) hK hX hP hD hS hA [0, 1] rfl rfl 0 5 rfl rfl rfl hl.1 rfl (Nat.le_of_ble_eq_true rfl) dL_owner_2 ⟨Nat.le_refl _, Nat.le_refl _⟩ (fun ce9 q9 H locs hP hD hS hce hcv hcl => ?_)
  refine vx_catch (E := xIO) (name := xIO) hown [] ⟨0, 6, 9, 22⟩ [] htab (fun _ h9 => nomatch h9) (by decide) (by decide) (hts (.classLink RL 22 xIO) (by decide +kernel)) (va_Nw.use rfl (hX.2.2.2.1 xIO (by decide))) hce hcv hcl ?_
  refine W.eq (g2 := F0 m9 9 ls [.ref q9]) rfl ?_
  refine lv_astore_n (lv' := [(3, .ref (q9)), (0, .ref (h)), (1, .int (x))]) hx hb dL_owner_9 rfl hl (by decide) rfl (fun ls hl => ?_)
  refine lv_bipush (v := (-31 : Int32)) hx hb dL_owner_10 (by decide) ?_
  refine W.widen (k := 1) (n := 6) (by decide) (by decide) ?_
  have hP : va_P G vwCl (cat [[(h, .inr (5, [.ref (Ad 0), .ref (At 0), .ref (As 0), .ref (Ac 0), .ref (L 6 0)]))], dyW cyI Ad D]) H := hP
  have hD : va_D A9 (cat [[(h, .inr (5, [.ref (Ad 0), .ref (At 0), .ref (As 0), .ref (Ac 0), .ref (L 6 0)]))], dyW cyI Ad D]) := hD
  exact end_i hx hb hr hlocks hK hP hD hS (rfl) dL_owner_12
abbrev rh_L_size : Room := { frames := 8, cells := 1, slots := 6, locals := 123 }
set_option maxHeartbeats 4000000 in
set_option maxRecDepth 100000 in
theorem t_L_size_IO (l : Launch) (G : va_G) (cyI cyO : ClassId) (h : Nat) (Ad At As Ac : Nat → Nat) (L : Nat → Nat → Nat) (D : DS) (x : Int32) (hx9 : isDig x 0 5 = false) (htr : l.stackTraces = false) : CH l G (TY cyI cyO) yL_size wsL_size rh_L_size [.ref (h), .int (x)] [[(h, .inr (5, [.ref (Ad 0), .ref (At 0), .ref (As 0), .ref (Ac 0), .ref (L 6 0)]))], dyW cyI Ad D] ((-31 : Int32)) [[(h, .inr (5, [.ref (Ad 0), .ref (At 0), .ref (As 0), .ref (Ac 0), .ref (L 6 0)]))], dyW cyI Ad D] := by
  refine wk_H (cc := cL_size) (maxL := 4) (ret := (some .int)) (hh := [(0, 6, 9, 22)]) (by decide) rfl (Nat.le_of_ble_eq_true rfl) ?_
  intro p9 e9 s9 m9 b9 t9 c9 A9 ls hx hb hr hts hown hlocks hml hK hA hD hP hl hS hX htab
  have hl : lv_has ls 4 [(0, .ref (h)), (1, .int (x))] := hl
  refine lv_aload_n hx hb dL_size_0 rfl (lv_at hl 0 rfl) ?_
  refine lv_iload_n hx hb dL_size_1 rfl (lv_at hl 1 rfl) ?_
  refine gXV (gs := [[(h, .inr (5, [.ref (Ad 0), .ref (At 0), .ref (As 0), .ref (Ac 0), .ref (L 6 0)]))], dyW cyI Ad D]) (As := [.int (x)]) (rest := []) ⟨hx, hb, hml, hown, hts⟩ (x_X5_size_IO l G cyI cyO h Ad At As Ac L D x hx9 htr) (cwV 1 hts gL_size_X5_size rfl rfl rfl (by decide +kernel) ⟨Nat.le_of_ble_eq_true rfl, Nat.le_of_ble_eq_true rfl⟩) hK hX hP hD hS hA [0, 1] rfl rfl 0 5 rfl rfl rfl hl.1 rfl (Nat.le_of_ble_eq_true rfl) dL_size_2 ⟨Nat.le_refl _, Nat.le_refl _⟩ (fun ce9 q9 H locs hP hD hS hce hcv hcl => ?_)
  refine vx_catch (E := xIO) (name := xIO) hown [] ⟨0, 6, 9, 22⟩ [] htab (fun _ h9 => nomatch h9) (by decide) (by decide) (hts (.classLink RL 22 xIO) (by decide +kernel)) (va_Nw.use rfl (hX.2.2.2.1 xIO (by decide))) hce hcv hcl ?_
  refine W.eq (g2 := F0 m9 9 ls [.ref q9]) rfl ?_
  refine lv_astore_n (lv' := [(3, .ref (q9)), (0, .ref (h)), (1, .int (x))]) hx hb dL_size_9 rfl hl (by decide) rfl (fun ls hl => ?_)
  refine lv_bipush (v := (-31 : Int32)) hx hb dL_size_10 (by decide) ?_
  refine W.widen (k := 1) (n := 6) (by decide) (by decide) ?_
  have hP : va_P G vwCl (cat [[(h, .inr (5, [.ref (Ad 0), .ref (At 0), .ref (As 0), .ref (Ac 0), .ref (L 6 0)]))], dyW cyI Ad D]) H := hP
  have hD : va_D A9 (cat [[(h, .inr (5, [.ref (Ad 0), .ref (At 0), .ref (As 0), .ref (Ac 0), .ref (L 6 0)]))], dyW cyI Ad D]) := hD
  exact end_i hx hb hr hlocks hK hP hD hS (rfl) dL_size_12
abbrev rh_L_changesIf : Room := { frames := 8, cells := 1, slots := 6, locals := 134 }
set_option maxHeartbeats 4000000 in
set_option maxRecDepth 100000 in
theorem t_L_changesIf_IO (l : Launch) (G : va_G) (cyI cyO : ClassId) (h : Nat) (Ad At As Ac : Nat → Nat) (L : Nat → Nat → Nat) (D : DS) (x : Int32) (hx9 : isDig x 0 5 = false) (htr : l.stackTraces = false) : CH l G (TY cyI cyO) yL_changesIf wsL_changesIf rh_L_changesIf [.ref (h), .int (x)] [[(h, .inr (5, [.ref (Ad 0), .ref (At 0), .ref (As 0), .ref (Ac 0), .ref (L 6 0)]))], dyW cyI Ad D] ((-31 : Int32)) [[(h, .inr (5, [.ref (Ad 0), .ref (At 0), .ref (As 0), .ref (Ac 0), .ref (L 6 0)]))], dyW cyI Ad D] := by
  refine wk_H (cc := cL_changesIf) (maxL := 4) (ret := (some .int)) (hh := [(0, 6, 9, 22)]) (by decide) rfl (Nat.le_of_ble_eq_true rfl) ?_
  intro p9 e9 s9 m9 b9 t9 c9 A9 ls hx hb hr hts hown hlocks hml hK hA hD hP hl hS hX htab
  have hl : lv_has ls 4 [(0, .ref (h)), (1, .int (x))] := hl
  refine lv_aload_n hx hb dL_changesIf_0 rfl (lv_at hl 0 rfl) ?_
  refine lv_iload_n hx hb dL_changesIf_1 rfl (lv_at hl 1 rfl) ?_
  refine gXV (gs := [[(h, .inr (5, [.ref (Ad 0), .ref (At 0), .ref (As 0), .ref (Ac 0), .ref (L 6 0)]))], dyW cyI Ad D]) (As := [.int (x)]) (rest := []) ⟨hx, hb, hml, hown, hts⟩ (x_X5_changesIf_IO l G cyI cyO h Ad At As Ac L D x hx9 htr) (cwV 1 hts gL_changesIf_X5_changesIf rfl rfl rfl (by decide +kernel) ⟨Nat.le_of_ble_eq_true rfl, Nat.le_of_ble_eq_true rfl⟩) hK hX hP hD hS hA [0, 1] rfl rfl 0 5 rfl rfl rfl hl.1 rfl (Nat.le_of_ble_eq_true rfl) dL_changesIf_2 ⟨Nat.le_refl _, Nat.le_refl _⟩ (fun ce9 q9 H locs hP hD hS hce hcv hcl => ?_)
  refine vx_catch (E := xIO) (name := xIO) hown [] ⟨0, 6, 9, 22⟩ [] htab (fun _ h9 => nomatch h9) (by decide) (by decide) (hts (.classLink RL 22 xIO) (by decide +kernel)) (va_Nw.use rfl (hX.2.2.2.1 xIO (by decide))) hce hcv hcl ?_
  refine W.eq (g2 := F0 m9 9 ls [.ref q9]) rfl ?_
  refine lv_astore_n (lv' := [(3, .ref (q9)), (0, .ref (h)), (1, .int (x))]) hx hb dL_changesIf_9 rfl hl (by decide) rfl (fun ls hl => ?_)
  refine lv_bipush (v := (-31 : Int32)) hx hb dL_changesIf_10 (by decide) ?_
  refine W.widen (k := 1) (n := 6) (by decide) (by decide) ?_
  have hP : va_P G vwCl (cat [[(h, .inr (5, [.ref (Ad 0), .ref (At 0), .ref (As 0), .ref (Ac 0), .ref (L 6 0)]))], dyW cyI Ad D]) H := hP
  have hD : va_D A9 (cat [[(h, .inr (5, [.ref (Ad 0), .ref (At 0), .ref (As 0), .ref (Ac 0), .ref (L 6 0)]))], dyW cyI Ad D]) := hD
  exact end_i hx hb hr hlocks hK hP hD hS (rfl) dL_changesIf_12
abbrev rh_L_reason : Room := { frames := 8, cells := 1, slots := 6, locals := 124 }
set_option maxHeartbeats 4000000 in
set_option maxRecDepth 100000 in
theorem t_L_reason_IO (l : Launch) (G : va_G) (cyI cyO : ClassId) (h : Nat) (Ad At As Ac : Nat → Nat) (L : Nat → Nat → Nat) (D : DS) (hn : D.2.2.2.2.2.1 ≤ 20) (x : Int32) (hx9 : dHas D.2.2.2.2.2.1 x = false) (htr : l.stackTraces = false) : CH l G (TY cyI cyO) yL_reason wsL_reason rh_L_reason [.ref (h), .int (x)] [[(h, .inr (5, [.ref (Ad 0), .ref (At 0), .ref (As 0), .ref (Ac 0), .ref (L 6 0)]))], dyW cyI Ad D] ((-31 : Int32)) [[(h, .inr (5, [.ref (Ad 0), .ref (At 0), .ref (As 0), .ref (Ac 0), .ref (L 6 0)]))], dyW cyI Ad D] := by
  refine wk_H (cc := cL_reason) (maxL := 4) (ret := (some .int)) (hh := [(0, 6, 9, 22)]) (by decide) rfl (Nat.le_of_ble_eq_true rfl) ?_
  intro p9 e9 s9 m9 b9 t9 c9 A9 ls hx hb hr hts hown hlocks hml hK hA hD hP hl hS hX htab
  have hl : lv_has ls 4 [(0, .ref (h)), (1, .int (x))] := hl
  refine lv_aload_n hx hb dL_reason_0 rfl (lv_at hl 0 rfl) ?_
  refine lv_iload_n hx hb dL_reason_1 rfl (lv_at hl 1 rfl) ?_
  refine gXV (gs := [[(h, .inr (5, [.ref (Ad 0), .ref (At 0), .ref (As 0), .ref (Ac 0), .ref (L 6 0)]))], dyW cyI Ad D]) (As := [.int (x)]) (rest := []) ⟨hx, hb, hml, hown, hts⟩ (x_X5_reason_IO l G cyI cyO h Ad At As Ac L D hn x hx9 htr) (cwV 1 hts gL_reason_X5_reason rfl rfl rfl (by decide +kernel) ⟨Nat.le_of_ble_eq_true rfl, Nat.le_of_ble_eq_true rfl⟩) hK hX hP hD hS hA [0, 1] rfl rfl 0 5 rfl rfl rfl hl.1 rfl (Nat.le_of_ble_eq_true rfl) dL_reason_2 ⟨Nat.le_refl _, Nat.le_refl _⟩ (fun ce9 q9 H locs hP hD hS hce hcv hcl => ?_)
  refine vx_catch (E := xIO) (name := xIO) hown [] ⟨0, 6, 9, 22⟩ [] htab (fun _ h9 => nomatch h9) (by decide) (by decide) (hts (.classLink RL 22 xIO) (by decide +kernel)) (va_Nw.use rfl (hX.2.2.2.1 xIO (by decide))) hce hcv hcl ?_
  refine W.eq (g2 := F0 m9 9 ls [.ref q9]) rfl ?_
  refine lv_astore_n (lv' := [(3, .ref (q9)), (0, .ref (h)), (1, .int (x))]) hx hb dL_reason_9 rfl hl (by decide) rfl (fun ls hl => ?_)
  refine lv_bipush (v := (-31 : Int32)) hx hb dL_reason_10 (by decide) ?_
  refine W.widen (k := 1) (n := 6) (by decide) (by decide) ?_
  have hP : va_P G vwCl (cat [[(h, .inr (5, [.ref (Ad 0), .ref (At 0), .ref (As 0), .ref (Ac 0), .ref (L 6 0)]))], dyW cyI Ad D]) H := hP
  have hD : va_D A9 (cat [[(h, .inr (5, [.ref (Ad 0), .ref (At 0), .ref (As 0), .ref (Ac 0), .ref (L 6 0)]))], dyW cyI Ad D]) := hD
  exact end_i hx hb hr hlocks hK hP hD hS (rfl) dL_reason_12

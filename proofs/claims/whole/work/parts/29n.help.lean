/-! ===== the law's helpers ===== -/
theorem in01 : vp_in 0 1 := by unfold vp_in; decide
def bL (b : Bool) : Int64 := if b = true then 1 else 0
theorem bL_t {P : Prop} [Decidable P] (h : P) : bL (decide P) = 1 := by rw [decide_eq_true h]; rfl
theorem bL_f {P : Prop} [Decidable P] (h : ¬ P) : bL (decide P) = 0 := by rw [decide_eq_false h]; rfl

abbrev rh_L_addDoorstep : Room := { frames := 8, cells := 1, slots := 6, locals := 123 }
set_option maxHeartbeats 4000000 in
set_option maxRecDepth 100000 in
theorem n_L_addDoorstep (l : Launch) (G : va_G) (cyI cyO cyJ : ClassId) (h : Nat) (Ad At As Ac : Nat → Nat) (L : Nat → Nat → Nat) (D : DS) (V : HS) (hn : D.2.2.2.2.2.1 ≤ 20) (hV : V.1 ≤ 6) (v : Nat) (h1 : 1 ≤ v) (h9 : v ≤ 9) (hm : (!dHO D && decide (D.2.2.2.2.2.1 < 20)) = true) (ao : Nat) (fo : Nat → Int64) : CH l G (TY3 cyI cyO cyJ) yL_addDoorstep wsL_addDoorstep rh_L_addDoorstep [.ref (h), .int (nI (v)), .ref (ao)] [[(h, .inr (5, [.ref (Ad 0), .ref (At 0), .ref (As 0), .ref (Ac 0), .ref (L 6 0)]))], dyW cyI Ad D, hiW cyI cyO L V, [(ao, .inl (cyJ, 1, .inr (.inl (fo))))]] ((0 : Int32)) [[(h, .inr (5, [.ref (Ad 0), .ref (At 0), .ref (As 0), .ref (Ac 0), .ref (L 6 0)]))], dyW cyI Ad (dAdd D (nI v)), hiW cyI cyO (svM L V) (svS V D), [(ao, .inl (cyJ, 1, .inr (.inl (vp_updL fo 0 ((nI (D.2.2.2.2.2.1)).toInt64)))))]] := by
  refine wk_H (cc := cL_addDoorstep) (maxL := 4) (ret := (some .int)) (hh := [(0, 9, 12, 13), (0, 9, 15, 15)]) (by decide) rfl (Nat.le_of_ble_eq_true rfl) ?_
  intro p9 e9 s9 m9 b9 t9 c9 A9 ls hx hb hr hts hown hlocks hml hK hA hD hP hl hS hX htab
  have hK2 := hK.sub [0, 1] (tys' := TY cyI cyO) rfl
  have hl : lv_has ls 4 [(0, .ref (h)), (1, .int (nI (v))), (2, .ref (ao))] := hl
  refine lv_aload_n hx hb dL_addDoorstep_0 rfl (lv_at hl 2 rfl) ?_
  refine lv_iconst (v := (0 : Int32)) hx hb dL_addDoorstep_1 (by decide) ?_
  refine lv_aload_n hx hb dL_addDoorstep_2 rfl (lv_at hl 0 rfl) ?_
  refine lv_iload_n hx hb dL_addDoorstep_3 rfl (lv_at hl 1 rfl) ?_
  refine gVi (gs := [[(h, .inr (5, [.ref (Ad 0), .ref (At 0), .ref (As 0), .ref (Ac 0), .ref (L 6 0)]))], dyW cyI Ad D, hiW cyI cyO L V, [(ao, .inl (cyJ, 1, .inr (.inl (fo))))]]) (As := [.int (nI (v))]) (rest := [.int ((0 : Int32)), .ref (ao)]) ⟨hx, hb, hml, hown, hts⟩ (c_X5_addDoorstep l G cyI cyO h Ad At As Ac L D V hn hV v h1 h9 hm) (cwV 1 hts gL_addDoorstep_X5_addDoorstep rfl rfl rfl (by decide +kernel) ⟨Nat.le_of_ble_eq_true rfl, Nat.le_of_ble_eq_true rfl⟩) hK2 hP hD hS hA [0, 1, 2] rfl rfl rfl 0 5 rfl rfl rfl hl.1 rfl (Nat.le_of_ble_eq_true rfl) dL_addDoorstep_4 ⟨Nat.zero_le _, Nat.zero_le _⟩ (fun H locs hP hD hS => ?_)
  have hP : va_P G vwCl (cat [[(h, .inr (5, [.ref (Ad 0), .ref (At 0), .ref (As 0), .ref (Ac 0), .ref (L 6 0)]))], dyW cyI Ad (dAdd D (nI v)), hiW cyI cyO (svM L V) (svS V D), [(ao, .inl (cyJ, 1, .inr (.inl (fo))))]]) H := hP
  have hD : va_D A9 (cat [[(h, .inr (5, [.ref (Ad 0), .ref (At 0), .ref (As 0), .ref (Ac 0), .ref (L 6 0)]))], dyW cyI Ad (dAdd D (nI v)), hiW cyI cyO (svM L V) (svS V D), [(ao, .inl (cyJ, 1, .inr (.inl (fo))))]]) := hD
  refine lv_i2l (v := (nI (D.2.2.2.2.2.1)).toInt64) hx hb dL_addDoorstep_7 rfl ?_
  refine va_last (f := fo) hx hb hK hP hD hS 80 2 rfl rfl in01 dL_addDoorstep_8 (fun H locs hP hD hS => ?_)
  have hP : va_P G vwCl (cat [[(h, .inr (5, [.ref (Ad 0), .ref (At 0), .ref (As 0), .ref (Ac 0), .ref (L 6 0)]))], dyW cyI Ad (dAdd D (nI v)), hiW cyI cyO (svM L V) (svS V D), [(ao, .inl (cyJ, 1, .inr (.inl (vp_updL fo 0 ((nI (D.2.2.2.2.2.1)).toInt64)))))]]) H := hP
  have hD : va_D A9 (cat [[(h, .inr (5, [.ref (Ad 0), .ref (At 0), .ref (As 0), .ref (Ac 0), .ref (L 6 0)]))], dyW cyI Ad (dAdd D (nI v)), hiW cyI cyO (svM L V) (svS V D), [(ao, .inl (cyJ, 1, .inr (.inl (vp_updL fo 0 ((nI (D.2.2.2.2.2.1)).toInt64)))))]]) := hD
  refine lv_goto (tgt := 18) hx hb dL_addDoorstep_9 (by decide) ?_
  refine lv_iconst (v := (0 : Int32)) hx hb dL_addDoorstep_18 (by decide) ?_
  refine W.widen (k := 1) (n := 6) (by decide) (by decide) ?_
  have hP : va_P G vwCl (cat [[(h, .inr (5, [.ref (Ad 0), .ref (At 0), .ref (As 0), .ref (Ac 0), .ref (L 6 0)]))], dyW cyI Ad (dAdd D (nI v)), hiW cyI cyO (svM L V) (svS V D), [(ao, .inl (cyJ, 1, .inr (.inl (vp_updL fo 0 ((nI (D.2.2.2.2.2.1)).toInt64)))))]]) H := hP
  have hD : va_D A9 (cat [[(h, .inr (5, [.ref (Ad 0), .ref (At 0), .ref (As 0), .ref (Ac 0), .ref (L 6 0)]))], dyW cyI Ad (dAdd D (nI v)), hiW cyI cyO (svM L V) (svS V D), [(ao, .inl (cyJ, 1, .inr (.inl (vp_updL fo 0 ((nI (D.2.2.2.2.2.1)).toInt64)))))]]) := hD
  exact end_i hx hb hr hlocks hK hP hD hS (rfl) dL_addDoorstep_19
set_option maxHeartbeats 4000000 in
set_option maxRecDepth 100000 in
theorem t_L_addDoorstep_IA (l : Launch) (G : va_G) (cyI cyO cyJ : ClassId) (h : Nat) (Ad At As Ac : Nat → Nat) (L : Nat → Nat → Nat) (D : DS) (x : Int32) (hx9 : isDig x 1 9 = false) (V : HS) (ao : Nat) (fo : Nat → Int64) (htr : l.stackTraces = false) : CH l G (TY3 cyI cyO cyJ) yL_addDoorstep wsL_addDoorstep rh_L_addDoorstep [.ref (h), .int (x), .ref (ao)] [[(h, .inr (5, [.ref (Ad 0), .ref (At 0), .ref (As 0), .ref (Ac 0), .ref (L 6 0)]))], dyW cyI Ad D, hiW cyI cyO L V, [(ao, .inl (cyJ, 1, .inr (.inl (fo))))]] ((1 : Int32)) [[(h, .inr (5, [.ref (Ad 0), .ref (At 0), .ref (As 0), .ref (Ac 0), .ref (L 6 0)]))], dyW cyI Ad D, hiW cyI cyO L V, [(ao, .inl (cyJ, 1, .inr (.inl (fo))))]] := by
  refine wk_H (cc := cL_addDoorstep) (maxL := 4) (ret := (some .int)) (hh := [(0, 9, 12, 13), (0, 9, 15, 15)]) (by decide) rfl (Nat.le_of_ble_eq_true rfl) ?_
  intro p9 e9 s9 m9 b9 t9 c9 A9 ls hx hb hr hts hown hlocks hml hK hA hD hP hl hS hX htab
  have hK2 := hK.sub [0, 1] (tys' := TY cyI cyO) rfl
  have hl : lv_has ls 4 [(0, .ref (h)), (1, .int (x)), (2, .ref (ao))] := hl
  refine lv_aload_n hx hb dL_addDoorstep_0 rfl (lv_at hl 2 rfl) ?_
  refine lv_iconst (v := (0 : Int32)) hx hb dL_addDoorstep_1 (by decide) ?_
  refine lv_aload_n hx hb dL_addDoorstep_2 rfl (lv_at hl 0 rfl) ?_
  refine lv_iload_n hx hb dL_addDoorstep_3 rfl (lv_at hl 1 rfl) ?_
  refine gXV (gs := [[(h, .inr (5, [.ref (Ad 0), .ref (At 0), .ref (As 0), .ref (Ac 0), .ref (L 6 0)]))], dyW cyI Ad D, hiW cyI cyO L V, [(ao, .inl (cyJ, 1, .inr (.inl (fo))))]]) (As := [.int (x)]) (rest := [.int ((0 : Int32)), .ref (ao)]) ⟨hx, hb, hml, hown, hts⟩ (x_X5_addDoorstep_IA l G cyI cyO h Ad At As Ac L D x hx9 htr) (cwV 1 hts gL_addDoorstep_X5_addDoorstep rfl rfl rfl (by decide +kernel) ⟨Nat.le_of_ble_eq_true rfl, Nat.le_of_ble_eq_true rfl⟩) hK2 hX hP hD hS hA [0, 1] rfl rfl 0 5 rfl rfl rfl hl.1 rfl (Nat.le_of_ble_eq_true rfl) dL_addDoorstep_4 ⟨Nat.le_refl _, Nat.le_refl _⟩ (fun ce9 q9 H locs hP hD hS hce hcv hcl => ?_)
  refine vx_catch (E := xIA) (name := xIA) hown [] ⟨0, 9, 12, 13⟩ [⟨0, 9, 15, 15⟩] htab (fun _ h9 => nomatch h9) (by decide) (by decide) (hts (.classLink RL 13 xIA) (by decide +kernel)) (va_Nw.use rfl (hX.2.2.2.1 xIA (by decide))) hce hcv hcl ?_
  refine W.eq (g2 := F0 m9 12 ls [.ref q9]) rfl ?_
  refine lv_astore_n (lv' := [(3, .ref (q9)), (0, .ref (h)), (1, .int (x)), (2, .ref (ao))]) hx hb dL_addDoorstep_12 rfl hl (by decide) rfl (fun ls hl => ?_)
  refine lv_iconst (v := (1 : Int32)) hx hb dL_addDoorstep_13 (by decide) ?_
  refine W.widen (k := 1) (n := 6) (by decide) (by decide) ?_
  have hP : va_P G vwCl (cat [[(h, .inr (5, [.ref (Ad 0), .ref (At 0), .ref (As 0), .ref (Ac 0), .ref (L 6 0)]))], dyW cyI Ad D, hiW cyI cyO L V, [(ao, .inl (cyJ, 1, .inr (.inl (fo))))]]) H := hP
  have hD : va_D A9 (cat [[(h, .inr (5, [.ref (Ad 0), .ref (At 0), .ref (As 0), .ref (Ac 0), .ref (L 6 0)]))], dyW cyI Ad D, hiW cyI cyO L V, [(ao, .inl (cyJ, 1, .inr (.inl (fo))))]]) := hD
  exact end_i hx hb hr hlocks hK hP hD hS (rfl) dL_addDoorstep_14
set_option maxHeartbeats 4000000 in
set_option maxRecDepth 100000 in
theorem t_L_addDoorstep_IS (l : Launch) (G : va_G) (cyI cyO cyJ : ClassId) (h : Nat) (Ad At As Ac : Nat → Nat) (L : Nat → Nat → Nat) (D : DS) (hn : D.2.2.2.2.2.1 ≤ 20) (v : Nat) (h1 : 1 ≤ v) (h9 : v ≤ 9) (hm : (!dHO D && decide (D.2.2.2.2.2.1 < 20)) = false) (V : HS) (ao : Nat) (fo : Nat → Int64) (htr : l.stackTraces = false) : CH l G (TY3 cyI cyO cyJ) yL_addDoorstep wsL_addDoorstep rh_L_addDoorstep [.ref (h), .int (nI (v)), .ref (ao)] [[(h, .inr (5, [.ref (Ad 0), .ref (At 0), .ref (As 0), .ref (Ac 0), .ref (L 6 0)]))], dyW cyI Ad D, hiW cyI cyO L V, [(ao, .inl (cyJ, 1, .inr (.inl (fo))))]] ((2 : Int32)) [[(h, .inr (5, [.ref (Ad 0), .ref (At 0), .ref (As 0), .ref (Ac 0), .ref (L 6 0)]))], dyW cyI Ad D, hiW cyI cyO L V, [(ao, .inl (cyJ, 1, .inr (.inl (fo))))]] := by
  refine wk_H (cc := cL_addDoorstep) (maxL := 4) (ret := (some .int)) (hh := [(0, 9, 12, 13), (0, 9, 15, 15)]) (by decide) rfl (Nat.le_of_ble_eq_true rfl) ?_
  intro p9 e9 s9 m9 b9 t9 c9 A9 ls hx hb hr hts hown hlocks hml hK hA hD hP hl hS hX htab
  have hK2 := hK.sub [0, 1] (tys' := TY cyI cyO) rfl
  have hl : lv_has ls 4 [(0, .ref (h)), (1, .int (nI (v))), (2, .ref (ao))] := hl
  refine lv_aload_n hx hb dL_addDoorstep_0 rfl (lv_at hl 2 rfl) ?_
  refine lv_iconst (v := (0 : Int32)) hx hb dL_addDoorstep_1 (by decide) ?_
  refine lv_aload_n hx hb dL_addDoorstep_2 rfl (lv_at hl 0 rfl) ?_
  refine lv_iload_n hx hb dL_addDoorstep_3 rfl (lv_at hl 1 rfl) ?_
  refine gXV (gs := [[(h, .inr (5, [.ref (Ad 0), .ref (At 0), .ref (As 0), .ref (Ac 0), .ref (L 6 0)]))], dyW cyI Ad D, hiW cyI cyO L V, [(ao, .inl (cyJ, 1, .inr (.inl (fo))))]]) (As := [.int (nI (v))]) (rest := [.int ((0 : Int32)), .ref (ao)]) ⟨hx, hb, hml, hown, hts⟩ (x_X5_addDoorstep_IS l G cyI cyO h Ad At As Ac L D hn v h1 h9 hm htr) (cwV 1 hts gL_addDoorstep_X5_addDoorstep rfl rfl rfl (by decide +kernel) ⟨Nat.le_of_ble_eq_true rfl, Nat.le_of_ble_eq_true rfl⟩) hK2 hX hP hD hS hA [0, 1] rfl rfl 0 5 rfl rfl rfl hl.1 rfl (Nat.le_of_ble_eq_true rfl) dL_addDoorstep_4 ⟨Nat.le_refl _, Nat.le_refl _⟩ (fun ce9 q9 H locs hP hD hS hce hcv hcl => ?_)
  refine vx_catch (E := xIS) (name := xIS) hown [⟨0, 9, 12, 13⟩] ⟨0, 9, 15, 15⟩ [] htab (fun z h9 => by cases List.mem_singleton.mp h9; exact Or.inr ⟨by decide, xIA, hts (.classLink RL 13 xIA) (by decide +kernel), hX.2.2.2.2.2 (xIS, xIA) (by decide)⟩) (by decide) (by decide) (hts (.classLink RL 15 xIS) (by decide +kernel)) (va_Nw.use rfl (hX.2.2.2.1 xIS (by decide))) hce hcv hcl ?_
  refine W.eq (g2 := F0 m9 15 ls [.ref q9]) rfl ?_
  refine lv_astore_n (lv' := [(3, .ref (q9)), (0, .ref (h)), (1, .int (nI (v))), (2, .ref (ao))]) hx hb dL_addDoorstep_15 rfl hl (by decide) rfl (fun ls hl => ?_)
  refine lv_iconst (v := (2 : Int32)) hx hb dL_addDoorstep_16 (by decide) ?_
  refine W.widen (k := 1) (n := 6) (by decide) (by decide) ?_
  have hP : va_P G vwCl (cat [[(h, .inr (5, [.ref (Ad 0), .ref (At 0), .ref (As 0), .ref (Ac 0), .ref (L 6 0)]))], dyW cyI Ad D, hiW cyI cyO L V, [(ao, .inl (cyJ, 1, .inr (.inl (fo))))]]) H := hP
  have hD : va_D A9 (cat [[(h, .inr (5, [.ref (Ad 0), .ref (At 0), .ref (As 0), .ref (Ac 0), .ref (L 6 0)]))], dyW cyI Ad D, hiW cyI cyO L V, [(ao, .inl (cyJ, 1, .inr (.inl (fo))))]]) := hD
  exact end_i hx hb hr hlocks hK hP hD hS (rfl) dL_addDoorstep_17
abbrev rh_L_removeDoorstep : Room := { frames := 8, cells := 1, slots := 6, locals := 124 }
set_option maxHeartbeats 4000000 in
set_option maxRecDepth 100000 in
theorem n_L_removeDoorstep (l : Launch) (G : va_G) (cyI cyO cyJ : ClassId) (h : Nat) (Ad At As Ac : Nat → Nat) (L : Nat → Nat → Nat) (D : DS) (V : HS) (hn : D.2.2.2.2.2.1 ≤ 20) (hV : V.1 ≤ 6) (k : Nat) (hk : k < D.2.2.2.2.2.1) (ho : dHO D = false) (ao : Nat) (fo : Nat → Int64) : CH l G (TY3 cyI cyO cyJ) yL_removeDoorstep wsL_removeDoorstep rh_L_removeDoorstep [.ref (h), .int (nI (k)), .ref (ao)] [[(h, .inr (5, [.ref (Ad 0), .ref (At 0), .ref (As 0), .ref (Ac 0), .ref (L 6 0)]))], dyW cyI Ad D, hiW cyI cyO L V, [(ao, .inl (cyJ, 1, .inr (.inl (fo))))]] ((0 : Int32)) [[(h, .inr (5, [.ref (Ad 0), .ref (At 0), .ref (As 0), .ref (Ac 0), .ref (L 6 0)]))], dyW cyI Ad (dRem D k), hiW cyI cyO (svM L V) (svS V D), [(ao, .inl (cyJ, 1, .inr (.inl (vp_updL fo 0 ((D.2.1 k).toInt64)))))]] := by
  refine wk_H (cc := cL_removeDoorstep) (maxL := 4) (ret := (some .int)) (hh := [(0, 9, 12, 20), (0, 9, 15, 15)]) (by decide) rfl (Nat.le_of_ble_eq_true rfl) ?_
  intro p9 e9 s9 m9 b9 t9 c9 A9 ls hx hb hr hts hown hlocks hml hK hA hD hP hl hS hX htab
  have hK2 := hK.sub [0, 1] (tys' := TY cyI cyO) rfl
  have hl : lv_has ls 4 [(0, .ref (h)), (1, .int (nI (k))), (2, .ref (ao))] := hl
  refine lv_aload_n hx hb dL_removeDoorstep_0 rfl (lv_at hl 2 rfl) ?_
  refine lv_iconst (v := (0 : Int32)) hx hb dL_removeDoorstep_1 (by decide) ?_
  refine lv_aload_n hx hb dL_removeDoorstep_2 rfl (lv_at hl 0 rfl) ?_
  refine lv_iload_n hx hb dL_removeDoorstep_3 rfl (lv_at hl 1 rfl) ?_
  refine gVi (gs := [[(h, .inr (5, [.ref (Ad 0), .ref (At 0), .ref (As 0), .ref (Ac 0), .ref (L 6 0)]))], dyW cyI Ad D, hiW cyI cyO L V, [(ao, .inl (cyJ, 1, .inr (.inl (fo))))]]) (As := [.int (nI (k))]) (rest := [.int ((0 : Int32)), .ref (ao)]) ⟨hx, hb, hml, hown, hts⟩ (c_X5_removeDoorstep l G cyI cyO h Ad At As Ac L D V hn hV k hk ho) (cwV 1 hts gL_removeDoorstep_X5_removeDoorstep rfl rfl rfl (by decide +kernel) ⟨Nat.le_of_ble_eq_true rfl, Nat.le_of_ble_eq_true rfl⟩) hK2 hP hD hS hA [0, 1, 2] rfl rfl rfl 0 5 rfl rfl rfl hl.1 rfl (Nat.le_of_ble_eq_true rfl) dL_removeDoorstep_4 ⟨Nat.zero_le _, Nat.zero_le _⟩ (fun H locs hP hD hS => ?_)
  have hP : va_P G vwCl (cat [[(h, .inr (5, [.ref (Ad 0), .ref (At 0), .ref (As 0), .ref (Ac 0), .ref (L 6 0)]))], dyW cyI Ad (dRem D k), hiW cyI cyO (svM L V) (svS V D), [(ao, .inl (cyJ, 1, .inr (.inl (fo))))]]) H := hP
  have hD : va_D A9 (cat [[(h, .inr (5, [.ref (Ad 0), .ref (At 0), .ref (As 0), .ref (Ac 0), .ref (L 6 0)]))], dyW cyI Ad (dRem D k), hiW cyI cyO (svM L V) (svS V D), [(ao, .inl (cyJ, 1, .inr (.inl (fo))))]]) := hD
  refine lv_i2l (v := (D.2.1 k).toInt64) hx hb dL_removeDoorstep_7 rfl ?_
  refine va_last (f := fo) hx hb hK hP hD hS 80 2 rfl rfl in01 dL_removeDoorstep_8 (fun H locs hP hD hS => ?_)
  have hP : va_P G vwCl (cat [[(h, .inr (5, [.ref (Ad 0), .ref (At 0), .ref (As 0), .ref (Ac 0), .ref (L 6 0)]))], dyW cyI Ad (dRem D k), hiW cyI cyO (svM L V) (svS V D), [(ao, .inl (cyJ, 1, .inr (.inl (vp_updL fo 0 ((D.2.1 k).toInt64)))))]]) H := hP
  have hD : va_D A9 (cat [[(h, .inr (5, [.ref (Ad 0), .ref (At 0), .ref (As 0), .ref (Ac 0), .ref (L 6 0)]))], dyW cyI Ad (dRem D k), hiW cyI cyO (svM L V) (svS V D), [(ao, .inl (cyJ, 1, .inr (.inl (vp_updL fo 0 ((D.2.1 k).toInt64)))))]]) := hD
  refine lv_goto (tgt := 18) hx hb dL_removeDoorstep_9 (by decide) ?_
  refine lv_iconst (v := (0 : Int32)) hx hb dL_removeDoorstep_18 (by decide) ?_
  refine W.widen (k := 1) (n := 6) (by decide) (by decide) ?_
  have hP : va_P G vwCl (cat [[(h, .inr (5, [.ref (Ad 0), .ref (At 0), .ref (As 0), .ref (Ac 0), .ref (L 6 0)]))], dyW cyI Ad (dRem D k), hiW cyI cyO (svM L V) (svS V D), [(ao, .inl (cyJ, 1, .inr (.inl (vp_updL fo 0 ((D.2.1 k).toInt64)))))]]) H := hP
  have hD : va_D A9 (cat [[(h, .inr (5, [.ref (Ad 0), .ref (At 0), .ref (As 0), .ref (Ac 0), .ref (L 6 0)]))], dyW cyI Ad (dRem D k), hiW cyI cyO (svM L V) (svS V D), [(ao, .inl (cyJ, 1, .inr (.inl (vp_updL fo 0 ((D.2.1 k).toInt64)))))]]) := hD
  exact end_i hx hb hr hlocks hK hP hD hS (rfl) dL_removeDoorstep_19
set_option maxHeartbeats 4000000 in
set_option maxRecDepth 100000 in
theorem t_L_removeDoorstep_IO (l : Launch) (G : va_G) (cyI cyO cyJ : ClassId) (h : Nat) (Ad At As Ac : Nat → Nat) (L : Nat → Nat → Nat) (D : DS) (hn : D.2.2.2.2.2.1 ≤ 20) (x : Int32) (hx9 : dHas D.2.2.2.2.2.1 x = false) (V : HS) (ao : Nat) (fo : Nat → Int64) (htr : l.stackTraces = false) : CH l G (TY3 cyI cyO cyJ) yL_removeDoorstep wsL_removeDoorstep rh_L_removeDoorstep [.ref (h), .int (x), .ref (ao)] [[(h, .inr (5, [.ref (Ad 0), .ref (At 0), .ref (As 0), .ref (Ac 0), .ref (L 6 0)]))], dyW cyI Ad D, hiW cyI cyO L V, [(ao, .inl (cyJ, 1, .inr (.inl (fo))))]] ((1 : Int32)) [[(h, .inr (5, [.ref (Ad 0), .ref (At 0), .ref (As 0), .ref (Ac 0), .ref (L 6 0)]))], dyW cyI Ad D, hiW cyI cyO L V, [(ao, .inl (cyJ, 1, .inr (.inl (fo))))]] := by
  refine wk_H (cc := cL_removeDoorstep) (maxL := 4) (ret := (some .int)) (hh := [(0, 9, 12, 20), (0, 9, 15, 15)]) (by decide) rfl (Nat.le_of_ble_eq_true rfl) ?_
  intro p9 e9 s9 m9 b9 t9 c9 A9 ls hx hb hr hts hown hlocks hml hK hA hD hP hl hS hX htab
  have hK2 := hK.sub [0, 1] (tys' := TY cyI cyO) rfl
  have hl : lv_has ls 4 [(0, .ref (h)), (1, .int (x)), (2, .ref (ao))] := hl
  refine lv_aload_n hx hb dL_removeDoorstep_0 rfl (lv_at hl 2 rfl) ?_
  refine lv_iconst (v := (0 : Int32)) hx hb dL_removeDoorstep_1 (by decide) ?_
  refine lv_aload_n hx hb dL_removeDoorstep_2 rfl (lv_at hl 0 rfl) ?_
  refine lv_iload_n hx hb dL_removeDoorstep_3 rfl (lv_at hl 1 rfl) ?_
  refine gXV (gs := [[(h, .inr (5, [.ref (Ad 0), .ref (At 0), .ref (As 0), .ref (Ac 0), .ref (L 6 0)]))], dyW cyI Ad D, hiW cyI cyO L V, [(ao, .inl (cyJ, 1, .inr (.inl (fo))))]]) (As := [.int (x)]) (rest := [.int ((0 : Int32)), .ref (ao)]) ⟨hx, hb, hml, hown, hts⟩ (x_X5_removeDoorstep_IO l G cyI cyO h Ad At As Ac L D hn x hx9 htr) (cwV 1 hts gL_removeDoorstep_X5_removeDoorstep rfl rfl rfl (by decide +kernel) ⟨Nat.le_of_ble_eq_true rfl, Nat.le_of_ble_eq_true rfl⟩) hK2 hX hP hD hS hA [0, 1] rfl rfl 0 5 rfl rfl rfl hl.1 rfl (Nat.le_of_ble_eq_true rfl) dL_removeDoorstep_4 ⟨Nat.le_refl _, Nat.le_refl _⟩ (fun ce9 q9 H locs hP hD hS hce hcv hcl => ?_)
  refine vx_catch (E := xIO) (name := xIO) hown [] ⟨0, 9, 12, 20⟩ [⟨0, 9, 15, 15⟩] htab (fun _ h9 => nomatch h9) (by decide) (by decide) (hts (.classLink RL 20 xIO) (by decide +kernel)) (va_Nw.use rfl (hX.2.2.2.1 xIO (by decide))) hce hcv hcl ?_
  refine W.eq (g2 := F0 m9 12 ls [.ref q9]) rfl ?_
  refine lv_astore_n (lv' := [(3, .ref (q9)), (0, .ref (h)), (1, .int (x)), (2, .ref (ao))]) hx hb dL_removeDoorstep_12 rfl hl (by decide) rfl (fun ls hl => ?_)
  refine lv_iconst (v := (1 : Int32)) hx hb dL_removeDoorstep_13 (by decide) ?_
  refine W.widen (k := 1) (n := 6) (by decide) (by decide) ?_
  have hP : va_P G vwCl (cat [[(h, .inr (5, [.ref (Ad 0), .ref (At 0), .ref (As 0), .ref (Ac 0), .ref (L 6 0)]))], dyW cyI Ad D, hiW cyI cyO L V, [(ao, .inl (cyJ, 1, .inr (.inl (fo))))]]) H := hP
  have hD : va_D A9 (cat [[(h, .inr (5, [.ref (Ad 0), .ref (At 0), .ref (As 0), .ref (Ac 0), .ref (L 6 0)]))], dyW cyI Ad D, hiW cyI cyO L V, [(ao, .inl (cyJ, 1, .inr (.inl (fo))))]]) := hD
  exact end_i hx hb hr hlocks hK hP hD hS (rfl) dL_removeDoorstep_14
set_option maxHeartbeats 4000000 in
set_option maxRecDepth 100000 in
theorem t_L_removeDoorstep_IS (l : Launch) (G : va_G) (cyI cyO cyJ : ClassId) (h : Nat) (Ad At As Ac : Nat → Nat) (L : Nat → Nat → Nat) (D : DS) (hn : D.2.2.2.2.2.1 ≤ 20) (k : Nat) (hk : k < D.2.2.2.2.2.1) (ho : dHO D = true) (V : HS) (ao : Nat) (fo : Nat → Int64) (htr : l.stackTraces = false) : CH l G (TY3 cyI cyO cyJ) yL_removeDoorstep wsL_removeDoorstep rh_L_removeDoorstep [.ref (h), .int (nI (k)), .ref (ao)] [[(h, .inr (5, [.ref (Ad 0), .ref (At 0), .ref (As 0), .ref (Ac 0), .ref (L 6 0)]))], dyW cyI Ad D, hiW cyI cyO L V, [(ao, .inl (cyJ, 1, .inr (.inl (fo))))]] ((2 : Int32)) [[(h, .inr (5, [.ref (Ad 0), .ref (At 0), .ref (As 0), .ref (Ac 0), .ref (L 6 0)]))], dyW cyI Ad D, hiW cyI cyO L V, [(ao, .inl (cyJ, 1, .inr (.inl (fo))))]] := by
  refine wk_H (cc := cL_removeDoorstep) (maxL := 4) (ret := (some .int)) (hh := [(0, 9, 12, 20), (0, 9, 15, 15)]) (by decide) rfl (Nat.le_of_ble_eq_true rfl) ?_
  intro p9 e9 s9 m9 b9 t9 c9 A9 ls hx hb hr hts hown hlocks hml hK hA hD hP hl hS hX htab
  have hK2 := hK.sub [0, 1] (tys' := TY cyI cyO) rfl
  have hl : lv_has ls 4 [(0, .ref (h)), (1, .int (nI (k))), (2, .ref (ao))] := hl
  refine lv_aload_n hx hb dL_removeDoorstep_0 rfl (lv_at hl 2 rfl) ?_
  refine lv_iconst (v := (0 : Int32)) hx hb dL_removeDoorstep_1 (by decide) ?_
  refine lv_aload_n hx hb dL_removeDoorstep_2 rfl (lv_at hl 0 rfl) ?_
  refine lv_iload_n hx hb dL_removeDoorstep_3 rfl (lv_at hl 1 rfl) ?_
  refine gXV (gs := [[(h, .inr (5, [.ref (Ad 0), .ref (At 0), .ref (As 0), .ref (Ac 0), .ref (L 6 0)]))], dyW cyI Ad D, hiW cyI cyO L V, [(ao, .inl (cyJ, 1, .inr (.inl (fo))))]]) (As := [.int (nI (k))]) (rest := [.int ((0 : Int32)), .ref (ao)]) ⟨hx, hb, hml, hown, hts⟩ (x_X5_removeDoorstep_IS l G cyI cyO h Ad At As Ac L D hn k hk ho htr) (cwV 1 hts gL_removeDoorstep_X5_removeDoorstep rfl rfl rfl (by decide +kernel) ⟨Nat.le_of_ble_eq_true rfl, Nat.le_of_ble_eq_true rfl⟩) hK2 hX hP hD hS hA [0, 1] rfl rfl 0 5 rfl rfl rfl hl.1 rfl (Nat.le_of_ble_eq_true rfl) dL_removeDoorstep_4 ⟨Nat.le_refl _, Nat.le_refl _⟩ (fun ce9 q9 H locs hP hD hS hce hcv hcl => ?_)
  refine vx_catch (E := xIS) (name := xIS) hown [⟨0, 9, 12, 20⟩] ⟨0, 9, 15, 15⟩ [] htab (fun z h9 => by cases List.mem_singleton.mp h9; exact Or.inr ⟨by decide, xIO, hts (.classLink RL 20 xIO) (by decide +kernel), hX.2.2.2.2.2 (xIS, xIO) (by decide)⟩) (by decide) (by decide) (hts (.classLink RL 15 xIS) (by decide +kernel)) (va_Nw.use rfl (hX.2.2.2.1 xIS (by decide))) hce hcv hcl ?_
  refine W.eq (g2 := F0 m9 15 ls [.ref q9]) rfl ?_
  refine lv_astore_n (lv' := [(3, .ref (q9)), (0, .ref (h)), (1, .int (nI (k))), (2, .ref (ao))]) hx hb dL_removeDoorstep_15 rfl hl (by decide) rfl (fun ls hl => ?_)
  refine lv_iconst (v := (2 : Int32)) hx hb dL_removeDoorstep_16 (by decide) ?_
  refine W.widen (k := 1) (n := 6) (by decide) (by decide) ?_
  have hP : va_P G vwCl (cat [[(h, .inr (5, [.ref (Ad 0), .ref (At 0), .ref (As 0), .ref (Ac 0), .ref (L 6 0)]))], dyW cyI Ad D, hiW cyI cyO L V, [(ao, .inl (cyJ, 1, .inr (.inl (fo))))]]) H := hP
  have hD : va_D A9 (cat [[(h, .inr (5, [.ref (Ad 0), .ref (At 0), .ref (As 0), .ref (Ac 0), .ref (L 6 0)]))], dyW cyI Ad D, hiW cyI cyO L V, [(ao, .inl (cyJ, 1, .inr (.inl (fo))))]]) := hD
  exact end_i hx hb hr hlocks hK hP hD hS (rfl) dL_removeDoorstep_17
abbrev rh_L_setPints : Room := { frames := 8, cells := 1, slots := 6, locals := 125 }
set_option maxHeartbeats 4000000 in
set_option maxRecDepth 100000 in
theorem n_L_setPints (l : Launch) (G : va_G) (cyI cyO cyJ : ClassId) (h : Nat) (Ad At As Ac : Nat → Nat) (L : Nat → Nat → Nat) (D : DS) (V : HS) (hn : D.2.2.2.2.2.1 ≤ 20) (hV : V.1 ≤ 6) (k : Nat) (hk : k < D.2.2.2.2.2.1) (v : Nat) (h1 : 1 ≤ v) (h9 : v ≤ 9) (ao : Nat) (fo : Nat → Int64) : CH l G (TY3 cyI cyO cyJ) yL_setPints wsL_setPints rh_L_setPints [.ref (h), .int (nI (k)), .int (nI (v)), .ref (ao)] [[(h, .inr (5, [.ref (Ad 0), .ref (At 0), .ref (As 0), .ref (Ac 0), .ref (L 6 0)]))], dyW cyI Ad D, hiW cyI cyO L V, [(ao, .inl (cyJ, 1, .inr (.inl (fo))))]] ((0 : Int32)) [[(h, .inr (5, [.ref (Ad 0), .ref (At 0), .ref (As 0), .ref (Ac 0), .ref (L 6 0)]))], dyW cyI Ad (dPts D k (nI v)), hiW cyI cyO (svM L V) (svS V D), [(ao, .inl (cyJ, 1, .inr (.inl (vp_updL fo 0 ((D.1 k).toInt64)))))]] := by
  refine wk_H (cc := cL_setPints) (maxL := 5) (ret := (some .int)) (hh := [(0, 10, 13, 20), (0, 10, 17, 13)]) (by decide) rfl (Nat.le_of_ble_eq_true rfl) ?_
  intro p9 e9 s9 m9 b9 t9 c9 A9 ls hx hb hr hts hown hlocks hml hK hA hD hP hl hS hX htab
  have hK2 := hK.sub [0, 1] (tys' := TY cyI cyO) rfl
  have hl : lv_has ls 5 [(0, .ref (h)), (1, .int (nI (k))), (2, .int (nI (v))), (3, .ref (ao))] := hl
  refine lv_aload_n hx hb dL_setPints_0 rfl (lv_at hl 3 rfl) ?_
  refine lv_iconst (v := (0 : Int32)) hx hb dL_setPints_1 (by decide) ?_
  refine lv_aload_n hx hb dL_setPints_2 rfl (lv_at hl 0 rfl) ?_
  refine lv_iload_n hx hb dL_setPints_3 rfl (lv_at hl 1 rfl) ?_
  refine lv_iload_n hx hb dL_setPints_4 rfl (lv_at hl 2 rfl) ?_
  refine gVi (gs := [[(h, .inr (5, [.ref (Ad 0), .ref (At 0), .ref (As 0), .ref (Ac 0), .ref (L 6 0)]))], dyW cyI Ad D, hiW cyI cyO L V, [(ao, .inl (cyJ, 1, .inr (.inl (fo))))]]) (As := [.int (nI (k)), .int (nI (v))]) (rest := [.int ((0 : Int32)), .ref (ao)]) ⟨hx, hb, hml, hown, hts⟩ (c_X5_setPints l G cyI cyO h Ad At As Ac L D V hn hV k hk v h1 h9) (cwV 2 hts gL_setPints_X5_setPints rfl rfl rfl (by decide +kernel) ⟨Nat.le_of_ble_eq_true rfl, Nat.le_of_ble_eq_true rfl⟩) hK2 hP hD hS hA [0, 1, 2] rfl rfl rfl 0 5 rfl rfl rfl hl.1 rfl (Nat.le_of_ble_eq_true rfl) dL_setPints_5 ⟨Nat.zero_le _, Nat.zero_le _⟩ (fun H locs hP hD hS => ?_)
  have hP : va_P G vwCl (cat [[(h, .inr (5, [.ref (Ad 0), .ref (At 0), .ref (As 0), .ref (Ac 0), .ref (L 6 0)]))], dyW cyI Ad (dPts D k (nI v)), hiW cyI cyO (svM L V) (svS V D), [(ao, .inl (cyJ, 1, .inr (.inl (fo))))]]) H := hP
  have hD : va_D A9 (cat [[(h, .inr (5, [.ref (Ad 0), .ref (At 0), .ref (As 0), .ref (Ac 0), .ref (L 6 0)]))], dyW cyI Ad (dPts D k (nI v)), hiW cyI cyO (svM L V) (svS V D), [(ao, .inl (cyJ, 1, .inr (.inl (fo))))]]) := hD
  refine lv_i2l (v := (D.1 k).toInt64) hx hb dL_setPints_8 rfl ?_
  refine va_last (f := fo) hx hb hK hP hD hS 80 2 rfl rfl in01 dL_setPints_9 (fun H locs hP hD hS => ?_)
  have hP : va_P G vwCl (cat [[(h, .inr (5, [.ref (Ad 0), .ref (At 0), .ref (As 0), .ref (Ac 0), .ref (L 6 0)]))], dyW cyI Ad (dPts D k (nI v)), hiW cyI cyO (svM L V) (svS V D), [(ao, .inl (cyJ, 1, .inr (.inl (vp_updL fo 0 ((D.1 k).toInt64)))))]]) H := hP
  have hD : va_D A9 (cat [[(h, .inr (5, [.ref (Ad 0), .ref (At 0), .ref (As 0), .ref (Ac 0), .ref (L 6 0)]))], dyW cyI Ad (dPts D k (nI v)), hiW cyI cyO (svM L V) (svS V D), [(ao, .inl (cyJ, 1, .inr (.inl (vp_updL fo 0 ((D.1 k).toInt64)))))]]) := hD
  refine lv_goto (tgt := 21) hx hb dL_setPints_10 (by decide) ?_
  refine lv_iconst (v := (0 : Int32)) hx hb dL_setPints_21 (by decide) ?_
  refine W.widen (k := 1) (n := 6) (by decide) (by decide) ?_
  have hP : va_P G vwCl (cat [[(h, .inr (5, [.ref (Ad 0), .ref (At 0), .ref (As 0), .ref (Ac 0), .ref (L 6 0)]))], dyW cyI Ad (dPts D k (nI v)), hiW cyI cyO (svM L V) (svS V D), [(ao, .inl (cyJ, 1, .inr (.inl (vp_updL fo 0 ((D.1 k).toInt64)))))]]) H := hP
  have hD : va_D A9 (cat [[(h, .inr (5, [.ref (Ad 0), .ref (At 0), .ref (As 0), .ref (Ac 0), .ref (L 6 0)]))], dyW cyI Ad (dPts D k (nI v)), hiW cyI cyO (svM L V) (svS V D), [(ao, .inl (cyJ, 1, .inr (.inl (vp_updL fo 0 ((D.1 k).toInt64)))))]]) := hD
  exact end_i hx hb hr hlocks hK hP hD hS (rfl) dL_setPints_22
set_option maxHeartbeats 4000000 in
set_option maxRecDepth 100000 in
theorem t_L_setPints_IO (l : Launch) (G : va_G) (cyI cyO cyJ : ClassId) (h : Nat) (Ad At As Ac : Nat → Nat) (L : Nat → Nat → Nat) (D : DS) (hn : D.2.2.2.2.2.1 ≤ 20) (x : Int32) (hx9 : dHas D.2.2.2.2.2.1 x = false) (w : Int32) (V : HS) (ao : Nat) (fo : Nat → Int64) (htr : l.stackTraces = false) : CH l G (TY3 cyI cyO cyJ) yL_setPints wsL_setPints rh_L_setPints [.ref (h), .int (x), .int (w), .ref (ao)] [[(h, .inr (5, [.ref (Ad 0), .ref (At 0), .ref (As 0), .ref (Ac 0), .ref (L 6 0)]))], dyW cyI Ad D, hiW cyI cyO L V, [(ao, .inl (cyJ, 1, .inr (.inl (fo))))]] ((1 : Int32)) [[(h, .inr (5, [.ref (Ad 0), .ref (At 0), .ref (As 0), .ref (Ac 0), .ref (L 6 0)]))], dyW cyI Ad D, hiW cyI cyO L V, [(ao, .inl (cyJ, 1, .inr (.inl (fo))))]] := by
  refine wk_H (cc := cL_setPints) (maxL := 5) (ret := (some .int)) (hh := [(0, 10, 13, 20), (0, 10, 17, 13)]) (by decide) rfl (Nat.le_of_ble_eq_true rfl) ?_
  intro p9 e9 s9 m9 b9 t9 c9 A9 ls hx hb hr hts hown hlocks hml hK hA hD hP hl hS hX htab
  have hK2 := hK.sub [0, 1] (tys' := TY cyI cyO) rfl
  have hl : lv_has ls 5 [(0, .ref (h)), (1, .int (x)), (2, .int (w)), (3, .ref (ao))] := hl
  refine lv_aload_n hx hb dL_setPints_0 rfl (lv_at hl 3 rfl) ?_
  refine lv_iconst (v := (0 : Int32)) hx hb dL_setPints_1 (by decide) ?_
  refine lv_aload_n hx hb dL_setPints_2 rfl (lv_at hl 0 rfl) ?_
  refine lv_iload_n hx hb dL_setPints_3 rfl (lv_at hl 1 rfl) ?_
  refine lv_iload_n hx hb dL_setPints_4 rfl (lv_at hl 2 rfl) ?_
  refine gXV (gs := [[(h, .inr (5, [.ref (Ad 0), .ref (At 0), .ref (As 0), .ref (Ac 0), .ref (L 6 0)]))], dyW cyI Ad D, hiW cyI cyO L V, [(ao, .inl (cyJ, 1, .inr (.inl (fo))))]]) (As := [.int (x), .int (w)]) (rest := [.int ((0 : Int32)), .ref (ao)]) ⟨hx, hb, hml, hown, hts⟩ (x_X5_setPints_IO l G cyI cyO h Ad At As Ac L D hn x hx9 w htr) (cwV 2 hts gL_setPints_X5_setPints rfl rfl rfl (by decide +kernel) ⟨Nat.le_of_ble_eq_true rfl, Nat.le_of_ble_eq_true rfl⟩) hK2 hX hP hD hS hA [0, 1] rfl rfl 0 5 rfl rfl rfl hl.1 rfl (Nat.le_of_ble_eq_true rfl) dL_setPints_5 ⟨Nat.le_refl _, Nat.le_refl _⟩ (fun ce9 q9 H locs hP hD hS hce hcv hcl => ?_)
  refine vx_catch (E := xIO) (name := xIO) hown [] ⟨0, 10, 13, 20⟩ [⟨0, 10, 17, 13⟩] htab (fun _ h9 => nomatch h9) (by decide) (by decide) (hts (.classLink RL 20 xIO) (by decide +kernel)) (va_Nw.use rfl (hX.2.2.2.1 xIO (by decide))) hce hcv hcl ?_
  refine W.eq (g2 := F0 m9 13 ls [.ref q9]) rfl ?_
  refine lv_astore (lv' := [(4, .ref (q9)), (0, .ref (h)), (1, .int (x)), (2, .int (w)), (3, .ref (ao))]) hx hb dL_setPints_13 hl (by decide) rfl (fun ls hl => ?_)
  refine lv_iconst (v := (1 : Int32)) hx hb dL_setPints_15 (by decide) ?_
  refine W.widen (k := 1) (n := 6) (by decide) (by decide) ?_
  have hP : va_P G vwCl (cat [[(h, .inr (5, [.ref (Ad 0), .ref (At 0), .ref (As 0), .ref (Ac 0), .ref (L 6 0)]))], dyW cyI Ad D, hiW cyI cyO L V, [(ao, .inl (cyJ, 1, .inr (.inl (fo))))]]) H := hP
  have hD : va_D A9 (cat [[(h, .inr (5, [.ref (Ad 0), .ref (At 0), .ref (As 0), .ref (Ac 0), .ref (L 6 0)]))], dyW cyI Ad D, hiW cyI cyO L V, [(ao, .inl (cyJ, 1, .inr (.inl (fo))))]]) := hD
  exact end_i hx hb hr hlocks hK hP hD hS (rfl) dL_setPints_16
set_option maxHeartbeats 4000000 in
set_option maxRecDepth 100000 in
theorem t_L_setPints_IA (l : Launch) (G : va_G) (cyI cyO cyJ : ClassId) (h : Nat) (Ad At As Ac : Nat → Nat) (L : Nat → Nat → Nat) (D : DS) (hn : D.2.2.2.2.2.1 ≤ 20) (k : Nat) (hk : k < D.2.2.2.2.2.1) (x : Int32) (hx9 : isDig x 1 9 = false) (V : HS) (ao : Nat) (fo : Nat → Int64) (htr : l.stackTraces = false) : CH l G (TY3 cyI cyO cyJ) yL_setPints wsL_setPints rh_L_setPints [.ref (h), .int (nI (k)), .int (x), .ref (ao)] [[(h, .inr (5, [.ref (Ad 0), .ref (At 0), .ref (As 0), .ref (Ac 0), .ref (L 6 0)]))], dyW cyI Ad D, hiW cyI cyO L V, [(ao, .inl (cyJ, 1, .inr (.inl (fo))))]] ((2 : Int32)) [[(h, .inr (5, [.ref (Ad 0), .ref (At 0), .ref (As 0), .ref (Ac 0), .ref (L 6 0)]))], dyW cyI Ad D, hiW cyI cyO L V, [(ao, .inl (cyJ, 1, .inr (.inl (fo))))]] := by
  refine wk_H (cc := cL_setPints) (maxL := 5) (ret := (some .int)) (hh := [(0, 10, 13, 20), (0, 10, 17, 13)]) (by decide) rfl (Nat.le_of_ble_eq_true rfl) ?_
  intro p9 e9 s9 m9 b9 t9 c9 A9 ls hx hb hr hts hown hlocks hml hK hA hD hP hl hS hX htab
  have hK2 := hK.sub [0, 1] (tys' := TY cyI cyO) rfl
  have hl : lv_has ls 5 [(0, .ref (h)), (1, .int (nI (k))), (2, .int (x)), (3, .ref (ao))] := hl
  refine lv_aload_n hx hb dL_setPints_0 rfl (lv_at hl 3 rfl) ?_
  refine lv_iconst (v := (0 : Int32)) hx hb dL_setPints_1 (by decide) ?_
  refine lv_aload_n hx hb dL_setPints_2 rfl (lv_at hl 0 rfl) ?_
  refine lv_iload_n hx hb dL_setPints_3 rfl (lv_at hl 1 rfl) ?_
  refine lv_iload_n hx hb dL_setPints_4 rfl (lv_at hl 2 rfl) ?_
  refine gXV (gs := [[(h, .inr (5, [.ref (Ad 0), .ref (At 0), .ref (As 0), .ref (Ac 0), .ref (L 6 0)]))], dyW cyI Ad D, hiW cyI cyO L V, [(ao, .inl (cyJ, 1, .inr (.inl (fo))))]]) (As := [.int (nI (k)), .int (x)]) (rest := [.int ((0 : Int32)), .ref (ao)]) ⟨hx, hb, hml, hown, hts⟩ (x_X5_setPints_IA l G cyI cyO h Ad At As Ac L D hn k hk x hx9 htr) (cwV 2 hts gL_setPints_X5_setPints rfl rfl rfl (by decide +kernel) ⟨Nat.le_of_ble_eq_true rfl, Nat.le_of_ble_eq_true rfl⟩) hK2 hX hP hD hS hA [0, 1] rfl rfl 0 5 rfl rfl rfl hl.1 rfl (Nat.le_of_ble_eq_true rfl) dL_setPints_5 ⟨Nat.le_refl _, Nat.le_refl _⟩ (fun ce9 q9 H locs hP hD hS hce hcv hcl => ?_)
  refine vx_catch (E := xIA) (name := xIA) hown [⟨0, 10, 13, 20⟩] ⟨0, 10, 17, 13⟩ [] htab (fun z h9 => by cases List.mem_singleton.mp h9; exact Or.inr ⟨by decide, xIO, hts (.classLink RL 20 xIO) (by decide +kernel), hX.2.2.2.2.2 (xIA, xIO) (by decide)⟩) (by decide) (by decide) (hts (.classLink RL 13 xIA) (by decide +kernel)) (va_Nw.use rfl (hX.2.2.2.1 xIA (by decide))) hce hcv hcl ?_
  refine W.eq (g2 := F0 m9 17 ls [.ref q9]) rfl ?_
  refine lv_astore (lv' := [(4, .ref (q9)), (0, .ref (h)), (1, .int (nI (k))), (2, .int (x)), (3, .ref (ao))]) hx hb dL_setPints_17 hl (by decide) rfl (fun ls hl => ?_)
  refine lv_iconst (v := (2 : Int32)) hx hb dL_setPints_19 (by decide) ?_
  refine W.widen (k := 1) (n := 6) (by decide) (by decide) ?_
  have hP : va_P G vwCl (cat [[(h, .inr (5, [.ref (Ad 0), .ref (At 0), .ref (As 0), .ref (Ac 0), .ref (L 6 0)]))], dyW cyI Ad D, hiW cyI cyO L V, [(ao, .inl (cyJ, 1, .inr (.inl (fo))))]]) H := hP
  have hD : va_D A9 (cat [[(h, .inr (5, [.ref (Ad 0), .ref (At 0), .ref (As 0), .ref (Ac 0), .ref (L 6 0)]))], dyW cyI Ad D, hiW cyI cyO L V, [(ao, .inl (cyJ, 1, .inr (.inl (fo))))]]) := hD
  exact end_i hx hb hr hlocks hK hP hD hS (rfl) dL_setPints_20
abbrev rh_L_come : Room := { frames := 8, cells := 1, slots := 6, locals := 123 }
set_option maxHeartbeats 4000000 in
set_option maxRecDepth 100000 in
theorem n_L_come (l : Launch) (G : va_G) (cyI cyO cyJ : ClassId) (h : Nat) (Ad At As Ac : Nat → Nat) (L : Nat → Nat → Nat) (D : DS) (V : HS) (hn : D.2.2.2.2.2.1 ≤ 20) (hV : V.1 ≤ 6) (k : Nat) (hk : k < 6) (hm : (!dHO D && !decide (D.2.2.1 k = 1)) = true) (ao : Nat) (fo : Nat → Int64) : CH l G (TY3 cyI cyO cyJ) yL_come wsL_come rh_L_come [.ref (h), .int (nI (k)), .ref (ao)] [[(h, .inr (5, [.ref (Ad 0), .ref (At 0), .ref (As 0), .ref (Ac 0), .ref (L 6 0)]))], dyW cyI Ad D, hiW cyI cyO L V, [(ao, .inl (cyJ, 1, .inr (.inl (fo))))]] ((0 : Int32)) [[(h, .inr (5, [.ref (Ad 0), .ref (At 0), .ref (As 0), .ref (Ac 0), .ref (L 6 0)]))], dyW cyI Ad (dWel D k), hiW cyI cyO (svM L V) (svS V D), [(ao, .inl (cyJ, 1, .inr (.inl (vp_updL fo 0 ((nI (cW (upd D.2.2.1 k 1))).toInt64)))))]] := by
  refine wk_H (cc := cL_come) (maxL := 4) (ret := (some .int)) (hh := [(0, 9, 12, 20), (0, 9, 15, 15)]) (by decide) rfl (Nat.le_of_ble_eq_true rfl) ?_
  intro p9 e9 s9 m9 b9 t9 c9 A9 ls hx hb hr hts hown hlocks hml hK hA hD hP hl hS hX htab
  have hK2 := hK.sub [0, 1] (tys' := TY cyI cyO) rfl
  have hl : lv_has ls 4 [(0, .ref (h)), (1, .int (nI (k))), (2, .ref (ao))] := hl
  refine lv_aload_n hx hb dL_come_0 rfl (lv_at hl 2 rfl) ?_
  refine lv_iconst (v := (0 : Int32)) hx hb dL_come_1 (by decide) ?_
  refine lv_aload_n hx hb dL_come_2 rfl (lv_at hl 0 rfl) ?_
  refine lv_iload_n hx hb dL_come_3 rfl (lv_at hl 1 rfl) ?_
  refine gVi (gs := [[(h, .inr (5, [.ref (Ad 0), .ref (At 0), .ref (As 0), .ref (Ac 0), .ref (L 6 0)]))], dyW cyI Ad D, hiW cyI cyO L V, [(ao, .inl (cyJ, 1, .inr (.inl (fo))))]]) (As := [.int (nI (k))]) (rest := [.int ((0 : Int32)), .ref (ao)]) ⟨hx, hb, hml, hown, hts⟩ (c_X5_come l G cyI cyO h Ad At As Ac L D V hn hV k hk hm) (cwV 1 hts gL_come_X5_come rfl rfl rfl (by decide +kernel) ⟨Nat.le_of_ble_eq_true rfl, Nat.le_of_ble_eq_true rfl⟩) hK2 hP hD hS hA [0, 1, 2] rfl rfl rfl 0 5 rfl rfl rfl hl.1 rfl (Nat.le_of_ble_eq_true rfl) dL_come_4 ⟨Nat.zero_le _, Nat.zero_le _⟩ (fun H locs hP hD hS => ?_)
  have hP : va_P G vwCl (cat [[(h, .inr (5, [.ref (Ad 0), .ref (At 0), .ref (As 0), .ref (Ac 0), .ref (L 6 0)]))], dyW cyI Ad (dWel D k), hiW cyI cyO (svM L V) (svS V D), [(ao, .inl (cyJ, 1, .inr (.inl (fo))))]]) H := hP
  have hD : va_D A9 (cat [[(h, .inr (5, [.ref (Ad 0), .ref (At 0), .ref (As 0), .ref (Ac 0), .ref (L 6 0)]))], dyW cyI Ad (dWel D k), hiW cyI cyO (svM L V) (svS V D), [(ao, .inl (cyJ, 1, .inr (.inl (fo))))]]) := hD
  refine lv_i2l (v := (nI (cW (upd D.2.2.1 k 1))).toInt64) hx hb dL_come_7 rfl ?_
  refine va_last (f := fo) hx hb hK hP hD hS 80 2 rfl rfl in01 dL_come_8 (fun H locs hP hD hS => ?_)
  have hP : va_P G vwCl (cat [[(h, .inr (5, [.ref (Ad 0), .ref (At 0), .ref (As 0), .ref (Ac 0), .ref (L 6 0)]))], dyW cyI Ad (dWel D k), hiW cyI cyO (svM L V) (svS V D), [(ao, .inl (cyJ, 1, .inr (.inl (vp_updL fo 0 ((nI (cW (upd D.2.2.1 k 1))).toInt64)))))]]) H := hP
  have hD : va_D A9 (cat [[(h, .inr (5, [.ref (Ad 0), .ref (At 0), .ref (As 0), .ref (Ac 0), .ref (L 6 0)]))], dyW cyI Ad (dWel D k), hiW cyI cyO (svM L V) (svS V D), [(ao, .inl (cyJ, 1, .inr (.inl (vp_updL fo 0 ((nI (cW (upd D.2.2.1 k 1))).toInt64)))))]]) := hD
  refine lv_goto (tgt := 18) hx hb dL_come_9 (by decide) ?_
  refine lv_iconst (v := (0 : Int32)) hx hb dL_come_18 (by decide) ?_
  refine W.widen (k := 1) (n := 6) (by decide) (by decide) ?_
  have hP : va_P G vwCl (cat [[(h, .inr (5, [.ref (Ad 0), .ref (At 0), .ref (As 0), .ref (Ac 0), .ref (L 6 0)]))], dyW cyI Ad (dWel D k), hiW cyI cyO (svM L V) (svS V D), [(ao, .inl (cyJ, 1, .inr (.inl (vp_updL fo 0 ((nI (cW (upd D.2.2.1 k 1))).toInt64)))))]]) H := hP
  have hD : va_D A9 (cat [[(h, .inr (5, [.ref (Ad 0), .ref (At 0), .ref (As 0), .ref (Ac 0), .ref (L 6 0)]))], dyW cyI Ad (dWel D k), hiW cyI cyO (svM L V) (svS V D), [(ao, .inl (cyJ, 1, .inr (.inl (vp_updL fo 0 ((nI (cW (upd D.2.2.1 k 1))).toInt64)))))]]) := hD
  exact end_i hx hb hr hlocks hK hP hD hS (rfl) dL_come_19
set_option maxHeartbeats 4000000 in
set_option maxRecDepth 100000 in
theorem t_L_come_IO (l : Launch) (G : va_G) (cyI cyO cyJ : ClassId) (h : Nat) (Ad At As Ac : Nat → Nat) (L : Nat → Nat → Nat) (D : DS) (x : Int32) (hx9 : isDig x 0 5 = false) (V : HS) (ao : Nat) (fo : Nat → Int64) (htr : l.stackTraces = false) : CH l G (TY3 cyI cyO cyJ) yL_come wsL_come rh_L_come [.ref (h), .int (x), .ref (ao)] [[(h, .inr (5, [.ref (Ad 0), .ref (At 0), .ref (As 0), .ref (Ac 0), .ref (L 6 0)]))], dyW cyI Ad D, hiW cyI cyO L V, [(ao, .inl (cyJ, 1, .inr (.inl (fo))))]] ((1 : Int32)) [[(h, .inr (5, [.ref (Ad 0), .ref (At 0), .ref (As 0), .ref (Ac 0), .ref (L 6 0)]))], dyW cyI Ad D, hiW cyI cyO L V, [(ao, .inl (cyJ, 1, .inr (.inl (fo))))]] := by
  refine wk_H (cc := cL_come) (maxL := 4) (ret := (some .int)) (hh := [(0, 9, 12, 20), (0, 9, 15, 15)]) (by decide) rfl (Nat.le_of_ble_eq_true rfl) ?_
  intro p9 e9 s9 m9 b9 t9 c9 A9 ls hx hb hr hts hown hlocks hml hK hA hD hP hl hS hX htab
  have hK2 := hK.sub [0, 1] (tys' := TY cyI cyO) rfl
  have hl : lv_has ls 4 [(0, .ref (h)), (1, .int (x)), (2, .ref (ao))] := hl
  refine lv_aload_n hx hb dL_come_0 rfl (lv_at hl 2 rfl) ?_
  refine lv_iconst (v := (0 : Int32)) hx hb dL_come_1 (by decide) ?_
  refine lv_aload_n hx hb dL_come_2 rfl (lv_at hl 0 rfl) ?_
  refine lv_iload_n hx hb dL_come_3 rfl (lv_at hl 1 rfl) ?_
  refine gXV (gs := [[(h, .inr (5, [.ref (Ad 0), .ref (At 0), .ref (As 0), .ref (Ac 0), .ref (L 6 0)]))], dyW cyI Ad D, hiW cyI cyO L V, [(ao, .inl (cyJ, 1, .inr (.inl (fo))))]]) (As := [.int (x)]) (rest := [.int ((0 : Int32)), .ref (ao)]) ⟨hx, hb, hml, hown, hts⟩ (x_X5_come_IO l G cyI cyO h Ad At As Ac L D x hx9 htr) (cwV 1 hts gL_come_X5_come rfl rfl rfl (by decide +kernel) ⟨Nat.le_of_ble_eq_true rfl, Nat.le_of_ble_eq_true rfl⟩) hK2 hX hP hD hS hA [0, 1] rfl rfl 0 5 rfl rfl rfl hl.1 rfl (Nat.le_of_ble_eq_true rfl) dL_come_4 ⟨Nat.le_refl _, Nat.le_refl _⟩ (fun ce9 q9 H locs hP hD hS hce hcv hcl => ?_)
  refine vx_catch (E := xIO) (name := xIO) hown [] ⟨0, 9, 12, 20⟩ [⟨0, 9, 15, 15⟩] htab (fun _ h9 => nomatch h9) (by decide) (by decide) (hts (.classLink RL 20 xIO) (by decide +kernel)) (va_Nw.use rfl (hX.2.2.2.1 xIO (by decide))) hce hcv hcl ?_
  refine W.eq (g2 := F0 m9 12 ls [.ref q9]) rfl ?_
  refine lv_astore_n (lv' := [(3, .ref (q9)), (0, .ref (h)), (1, .int (x)), (2, .ref (ao))]) hx hb dL_come_12 rfl hl (by decide) rfl (fun ls hl => ?_)
  refine lv_iconst (v := (1 : Int32)) hx hb dL_come_13 (by decide) ?_
  refine W.widen (k := 1) (n := 6) (by decide) (by decide) ?_
  have hP : va_P G vwCl (cat [[(h, .inr (5, [.ref (Ad 0), .ref (At 0), .ref (As 0), .ref (Ac 0), .ref (L 6 0)]))], dyW cyI Ad D, hiW cyI cyO L V, [(ao, .inl (cyJ, 1, .inr (.inl (fo))))]]) H := hP
  have hD : va_D A9 (cat [[(h, .inr (5, [.ref (Ad 0), .ref (At 0), .ref (As 0), .ref (Ac 0), .ref (L 6 0)]))], dyW cyI Ad D, hiW cyI cyO L V, [(ao, .inl (cyJ, 1, .inr (.inl (fo))))]]) := hD
  exact end_i hx hb hr hlocks hK hP hD hS (rfl) dL_come_14
set_option maxHeartbeats 4000000 in
set_option maxRecDepth 100000 in
theorem t_L_come_IS (l : Launch) (G : va_G) (cyI cyO cyJ : ClassId) (h : Nat) (Ad At As Ac : Nat → Nat) (L : Nat → Nat → Nat) (D : DS) (k : Nat) (hk : k < 6) (hm : (!dHO D && !decide (D.2.2.1 k = 1)) = false) (V : HS) (ao : Nat) (fo : Nat → Int64) (htr : l.stackTraces = false) : CH l G (TY3 cyI cyO cyJ) yL_come wsL_come rh_L_come [.ref (h), .int (nI (k)), .ref (ao)] [[(h, .inr (5, [.ref (Ad 0), .ref (At 0), .ref (As 0), .ref (Ac 0), .ref (L 6 0)]))], dyW cyI Ad D, hiW cyI cyO L V, [(ao, .inl (cyJ, 1, .inr (.inl (fo))))]] ((2 : Int32)) [[(h, .inr (5, [.ref (Ad 0), .ref (At 0), .ref (As 0), .ref (Ac 0), .ref (L 6 0)]))], dyW cyI Ad D, hiW cyI cyO L V, [(ao, .inl (cyJ, 1, .inr (.inl (fo))))]] := by
  refine wk_H (cc := cL_come) (maxL := 4) (ret := (some .int)) (hh := [(0, 9, 12, 20), (0, 9, 15, 15)]) (by decide) rfl (Nat.le_of_ble_eq_true rfl) ?_
  intro p9 e9 s9 m9 b9 t9 c9 A9 ls hx hb hr hts hown hlocks hml hK hA hD hP hl hS hX htab
  have hK2 := hK.sub [0, 1] (tys' := TY cyI cyO) rfl
  have hl : lv_has ls 4 [(0, .ref (h)), (1, .int (nI (k))), (2, .ref (ao))] := hl
  refine lv_aload_n hx hb dL_come_0 rfl (lv_at hl 2 rfl) ?_
  refine lv_iconst (v := (0 : Int32)) hx hb dL_come_1 (by decide) ?_
  refine lv_aload_n hx hb dL_come_2 rfl (lv_at hl 0 rfl) ?_
  refine lv_iload_n hx hb dL_come_3 rfl (lv_at hl 1 rfl) ?_
  refine gXV (gs := [[(h, .inr (5, [.ref (Ad 0), .ref (At 0), .ref (As 0), .ref (Ac 0), .ref (L 6 0)]))], dyW cyI Ad D, hiW cyI cyO L V, [(ao, .inl (cyJ, 1, .inr (.inl (fo))))]]) (As := [.int (nI (k))]) (rest := [.int ((0 : Int32)), .ref (ao)]) ⟨hx, hb, hml, hown, hts⟩ (x_X5_come_IS l G cyI cyO h Ad At As Ac L D k hk hm htr) (cwV 1 hts gL_come_X5_come rfl rfl rfl (by decide +kernel) ⟨Nat.le_of_ble_eq_true rfl, Nat.le_of_ble_eq_true rfl⟩) hK2 hX hP hD hS hA [0, 1] rfl rfl 0 5 rfl rfl rfl hl.1 rfl (Nat.le_of_ble_eq_true rfl) dL_come_4 ⟨Nat.le_refl _, Nat.le_refl _⟩ (fun ce9 q9 H locs hP hD hS hce hcv hcl => ?_)
  refine vx_catch (E := xIS) (name := xIS) hown [⟨0, 9, 12, 20⟩] ⟨0, 9, 15, 15⟩ [] htab (fun z h9 => by cases List.mem_singleton.mp h9; exact Or.inr ⟨by decide, xIO, hts (.classLink RL 20 xIO) (by decide +kernel), hX.2.2.2.2.2 (xIS, xIO) (by decide)⟩) (by decide) (by decide) (hts (.classLink RL 15 xIS) (by decide +kernel)) (va_Nw.use rfl (hX.2.2.2.1 xIS (by decide))) hce hcv hcl ?_
  refine W.eq (g2 := F0 m9 15 ls [.ref q9]) rfl ?_
  refine lv_astore_n (lv' := [(3, .ref (q9)), (0, .ref (h)), (1, .int (nI (k))), (2, .ref (ao))]) hx hb dL_come_15 rfl hl (by decide) rfl (fun ls hl => ?_)
  refine lv_iconst (v := (2 : Int32)) hx hb dL_come_16 (by decide) ?_
  refine W.widen (k := 1) (n := 6) (by decide) (by decide) ?_
  have hP : va_P G vwCl (cat [[(h, .inr (5, [.ref (Ad 0), .ref (At 0), .ref (As 0), .ref (Ac 0), .ref (L 6 0)]))], dyW cyI Ad D, hiW cyI cyO L V, [(ao, .inl (cyJ, 1, .inr (.inl (fo))))]]) H := hP
  have hD : va_D A9 (cat [[(h, .inr (5, [.ref (Ad 0), .ref (At 0), .ref (As 0), .ref (Ac 0), .ref (L 6 0)]))], dyW cyI Ad D, hiW cyI cyO L V, [(ao, .inl (cyJ, 1, .inr (.inl (fo))))]]) := hD
  exact end_i hx hb hr hlocks hK hP hD hS (rfl) dL_come_17
abbrev rh_L_leave : Room := { frames := 8, cells := 1, slots := 6, locals := 123 }
set_option maxHeartbeats 4000000 in
set_option maxRecDepth 100000 in
theorem n_L_leave (l : Launch) (G : va_G) (cyI cyO cyJ : ClassId) (h : Nat) (Ad At As Ac : Nat → Nat) (L : Nat → Nat → Nat) (D : DS) (V : HS) (hn : D.2.2.2.2.2.1 ≤ 20) (hV : V.1 ≤ 6) (k : Nat) (hk : k < 6) (hm : (!dHO D && decide (D.2.2.1 k = 1)) = true) (ao : Nat) (fo : Nat → Int64) : CH l G (TY3 cyI cyO cyJ) yL_leave wsL_leave rh_L_leave [.ref (h), .int (nI (k)), .ref (ao)] [[(h, .inr (5, [.ref (Ad 0), .ref (At 0), .ref (As 0), .ref (Ac 0), .ref (L 6 0)]))], dyW cyI Ad D, hiW cyI cyO L V, [(ao, .inl (cyJ, 1, .inr (.inl (fo))))]] ((0 : Int32)) [[(h, .inr (5, [.ref (Ad 0), .ref (At 0), .ref (As 0), .ref (Ac 0), .ref (L 6 0)]))], dyW cyI Ad (dDis D k), hiW cyI cyO (svM L V) (svS V D), [(ao, .inl (cyJ, 1, .inr (.inl (vp_updL fo 0 ((nI ((dsAll D.2.1 D.2.2.2.2.2.1 (nI k)).2)).toInt64)))))]] := by
  refine wk_H (cc := cL_leave) (maxL := 4) (ret := (some .int)) (hh := [(0, 9, 12, 20), (0, 9, 15, 15)]) (by decide) rfl (Nat.le_of_ble_eq_true rfl) ?_
  intro p9 e9 s9 m9 b9 t9 c9 A9 ls hx hb hr hts hown hlocks hml hK hA hD hP hl hS hX htab
  have hK2 := hK.sub [0, 1] (tys' := TY cyI cyO) rfl
  have hl : lv_has ls 4 [(0, .ref (h)), (1, .int (nI (k))), (2, .ref (ao))] := hl
  refine lv_aload_n hx hb dL_leave_0 rfl (lv_at hl 2 rfl) ?_
  refine lv_iconst (v := (0 : Int32)) hx hb dL_leave_1 (by decide) ?_
  refine lv_aload_n hx hb dL_leave_2 rfl (lv_at hl 0 rfl) ?_
  refine lv_iload_n hx hb dL_leave_3 rfl (lv_at hl 1 rfl) ?_
  refine gVi (gs := [[(h, .inr (5, [.ref (Ad 0), .ref (At 0), .ref (As 0), .ref (Ac 0), .ref (L 6 0)]))], dyW cyI Ad D, hiW cyI cyO L V, [(ao, .inl (cyJ, 1, .inr (.inl (fo))))]]) (As := [.int (nI (k))]) (rest := [.int ((0 : Int32)), .ref (ao)]) ⟨hx, hb, hml, hown, hts⟩ (c_X5_leave l G cyI cyO h Ad At As Ac L D V hn hV k hk hm) (cwV 1 hts gL_leave_X5_leave rfl rfl rfl (by decide +kernel) ⟨Nat.le_of_ble_eq_true rfl, Nat.le_of_ble_eq_true rfl⟩) hK2 hP hD hS hA [0, 1, 2] rfl rfl rfl 0 5 rfl rfl rfl hl.1 rfl (Nat.le_of_ble_eq_true rfl) dL_leave_4 ⟨Nat.zero_le _, Nat.zero_le _⟩ (fun H locs hP hD hS => ?_)
  have hP : va_P G vwCl (cat [[(h, .inr (5, [.ref (Ad 0), .ref (At 0), .ref (As 0), .ref (Ac 0), .ref (L 6 0)]))], dyW cyI Ad (dDis D k), hiW cyI cyO (svM L V) (svS V D), [(ao, .inl (cyJ, 1, .inr (.inl (fo))))]]) H := hP
  have hD : va_D A9 (cat [[(h, .inr (5, [.ref (Ad 0), .ref (At 0), .ref (As 0), .ref (Ac 0), .ref (L 6 0)]))], dyW cyI Ad (dDis D k), hiW cyI cyO (svM L V) (svS V D), [(ao, .inl (cyJ, 1, .inr (.inl (fo))))]]) := hD
  refine lv_i2l (v := (nI ((dsAll D.2.1 D.2.2.2.2.2.1 (nI k)).2)).toInt64) hx hb dL_leave_7 rfl ?_
  refine va_last (f := fo) hx hb hK hP hD hS 80 2 rfl rfl in01 dL_leave_8 (fun H locs hP hD hS => ?_)
  have hP : va_P G vwCl (cat [[(h, .inr (5, [.ref (Ad 0), .ref (At 0), .ref (As 0), .ref (Ac 0), .ref (L 6 0)]))], dyW cyI Ad (dDis D k), hiW cyI cyO (svM L V) (svS V D), [(ao, .inl (cyJ, 1, .inr (.inl (vp_updL fo 0 ((nI ((dsAll D.2.1 D.2.2.2.2.2.1 (nI k)).2)).toInt64)))))]]) H := hP
  have hD : va_D A9 (cat [[(h, .inr (5, [.ref (Ad 0), .ref (At 0), .ref (As 0), .ref (Ac 0), .ref (L 6 0)]))], dyW cyI Ad (dDis D k), hiW cyI cyO (svM L V) (svS V D), [(ao, .inl (cyJ, 1, .inr (.inl (vp_updL fo 0 ((nI ((dsAll D.2.1 D.2.2.2.2.2.1 (nI k)).2)).toInt64)))))]]) := hD
  refine lv_goto (tgt := 18) hx hb dL_leave_9 (by decide) ?_
  refine lv_iconst (v := (0 : Int32)) hx hb dL_leave_18 (by decide) ?_
  refine W.widen (k := 1) (n := 6) (by decide) (by decide) ?_
  have hP : va_P G vwCl (cat [[(h, .inr (5, [.ref (Ad 0), .ref (At 0), .ref (As 0), .ref (Ac 0), .ref (L 6 0)]))], dyW cyI Ad (dDis D k), hiW cyI cyO (svM L V) (svS V D), [(ao, .inl (cyJ, 1, .inr (.inl (vp_updL fo 0 ((nI ((dsAll D.2.1 D.2.2.2.2.2.1 (nI k)).2)).toInt64)))))]]) H := hP
  have hD : va_D A9 (cat [[(h, .inr (5, [.ref (Ad 0), .ref (At 0), .ref (As 0), .ref (Ac 0), .ref (L 6 0)]))], dyW cyI Ad (dDis D k), hiW cyI cyO (svM L V) (svS V D), [(ao, .inl (cyJ, 1, .inr (.inl (vp_updL fo 0 ((nI ((dsAll D.2.1 D.2.2.2.2.2.1 (nI k)).2)).toInt64)))))]]) := hD
  exact end_i hx hb hr hlocks hK hP hD hS (rfl) dL_leave_19
set_option maxHeartbeats 4000000 in
set_option maxRecDepth 100000 in
theorem t_L_leave_IO (l : Launch) (G : va_G) (cyI cyO cyJ : ClassId) (h : Nat) (Ad At As Ac : Nat → Nat) (L : Nat → Nat → Nat) (D : DS) (x : Int32) (hx9 : isDig x 0 5 = false) (V : HS) (ao : Nat) (fo : Nat → Int64) (htr : l.stackTraces = false) : CH l G (TY3 cyI cyO cyJ) yL_leave wsL_leave rh_L_leave [.ref (h), .int (x), .ref (ao)] [[(h, .inr (5, [.ref (Ad 0), .ref (At 0), .ref (As 0), .ref (Ac 0), .ref (L 6 0)]))], dyW cyI Ad D, hiW cyI cyO L V, [(ao, .inl (cyJ, 1, .inr (.inl (fo))))]] ((1 : Int32)) [[(h, .inr (5, [.ref (Ad 0), .ref (At 0), .ref (As 0), .ref (Ac 0), .ref (L 6 0)]))], dyW cyI Ad D, hiW cyI cyO L V, [(ao, .inl (cyJ, 1, .inr (.inl (fo))))]] := by
  refine wk_H (cc := cL_leave) (maxL := 4) (ret := (some .int)) (hh := [(0, 9, 12, 20), (0, 9, 15, 15)]) (by decide) rfl (Nat.le_of_ble_eq_true rfl) ?_
  intro p9 e9 s9 m9 b9 t9 c9 A9 ls hx hb hr hts hown hlocks hml hK hA hD hP hl hS hX htab
  have hK2 := hK.sub [0, 1] (tys' := TY cyI cyO) rfl
  have hl : lv_has ls 4 [(0, .ref (h)), (1, .int (x)), (2, .ref (ao))] := hl
  refine lv_aload_n hx hb dL_leave_0 rfl (lv_at hl 2 rfl) ?_
  refine lv_iconst (v := (0 : Int32)) hx hb dL_leave_1 (by decide) ?_
  refine lv_aload_n hx hb dL_leave_2 rfl (lv_at hl 0 rfl) ?_
  refine lv_iload_n hx hb dL_leave_3 rfl (lv_at hl 1 rfl) ?_
  refine gXV (gs := [[(h, .inr (5, [.ref (Ad 0), .ref (At 0), .ref (As 0), .ref (Ac 0), .ref (L 6 0)]))], dyW cyI Ad D, hiW cyI cyO L V, [(ao, .inl (cyJ, 1, .inr (.inl (fo))))]]) (As := [.int (x)]) (rest := [.int ((0 : Int32)), .ref (ao)]) ⟨hx, hb, hml, hown, hts⟩ (x_X5_leave_IO l G cyI cyO h Ad At As Ac L D x hx9 htr) (cwV 1 hts gL_leave_X5_leave rfl rfl rfl (by decide +kernel) ⟨Nat.le_of_ble_eq_true rfl, Nat.le_of_ble_eq_true rfl⟩) hK2 hX hP hD hS hA [0, 1] rfl rfl 0 5 rfl rfl rfl hl.1 rfl (Nat.le_of_ble_eq_true rfl) dL_leave_4 ⟨Nat.le_refl _, Nat.le_refl _⟩ (fun ce9 q9 H locs hP hD hS hce hcv hcl => ?_)
  refine vx_catch (E := xIO) (name := xIO) hown [] ⟨0, 9, 12, 20⟩ [⟨0, 9, 15, 15⟩] htab (fun _ h9 => nomatch h9) (by decide) (by decide) (hts (.classLink RL 20 xIO) (by decide +kernel)) (va_Nw.use rfl (hX.2.2.2.1 xIO (by decide))) hce hcv hcl ?_
  refine W.eq (g2 := F0 m9 12 ls [.ref q9]) rfl ?_
  refine lv_astore_n (lv' := [(3, .ref (q9)), (0, .ref (h)), (1, .int (x)), (2, .ref (ao))]) hx hb dL_leave_12 rfl hl (by decide) rfl (fun ls hl => ?_)
  refine lv_iconst (v := (1 : Int32)) hx hb dL_leave_13 (by decide) ?_
  refine W.widen (k := 1) (n := 6) (by decide) (by decide) ?_
  have hP : va_P G vwCl (cat [[(h, .inr (5, [.ref (Ad 0), .ref (At 0), .ref (As 0), .ref (Ac 0), .ref (L 6 0)]))], dyW cyI Ad D, hiW cyI cyO L V, [(ao, .inl (cyJ, 1, .inr (.inl (fo))))]]) H := hP
  have hD : va_D A9 (cat [[(h, .inr (5, [.ref (Ad 0), .ref (At 0), .ref (As 0), .ref (Ac 0), .ref (L 6 0)]))], dyW cyI Ad D, hiW cyI cyO L V, [(ao, .inl (cyJ, 1, .inr (.inl (fo))))]]) := hD
  exact end_i hx hb hr hlocks hK hP hD hS (rfl) dL_leave_14
set_option maxHeartbeats 4000000 in
set_option maxRecDepth 100000 in
theorem t_L_leave_IS (l : Launch) (G : va_G) (cyI cyO cyJ : ClassId) (h : Nat) (Ad At As Ac : Nat → Nat) (L : Nat → Nat → Nat) (D : DS) (k : Nat) (hk : k < 6) (hm : (!dHO D && decide (D.2.2.1 k = 1)) = false) (V : HS) (ao : Nat) (fo : Nat → Int64) (htr : l.stackTraces = false) : CH l G (TY3 cyI cyO cyJ) yL_leave wsL_leave rh_L_leave [.ref (h), .int (nI (k)), .ref (ao)] [[(h, .inr (5, [.ref (Ad 0), .ref (At 0), .ref (As 0), .ref (Ac 0), .ref (L 6 0)]))], dyW cyI Ad D, hiW cyI cyO L V, [(ao, .inl (cyJ, 1, .inr (.inl (fo))))]] ((2 : Int32)) [[(h, .inr (5, [.ref (Ad 0), .ref (At 0), .ref (As 0), .ref (Ac 0), .ref (L 6 0)]))], dyW cyI Ad D, hiW cyI cyO L V, [(ao, .inl (cyJ, 1, .inr (.inl (fo))))]] := by
  refine wk_H (cc := cL_leave) (maxL := 4) (ret := (some .int)) (hh := [(0, 9, 12, 20), (0, 9, 15, 15)]) (by decide) rfl (Nat.le_of_ble_eq_true rfl) ?_
  intro p9 e9 s9 m9 b9 t9 c9 A9 ls hx hb hr hts hown hlocks hml hK hA hD hP hl hS hX htab
  have hK2 := hK.sub [0, 1] (tys' := TY cyI cyO) rfl
  have hl : lv_has ls 4 [(0, .ref (h)), (1, .int (nI (k))), (2, .ref (ao))] := hl
  refine lv_aload_n hx hb dL_leave_0 rfl (lv_at hl 2 rfl) ?_
  refine lv_iconst (v := (0 : Int32)) hx hb dL_leave_1 (by decide) ?_
  refine lv_aload_n hx hb dL_leave_2 rfl (lv_at hl 0 rfl) ?_
  refine lv_iload_n hx hb dL_leave_3 rfl (lv_at hl 1 rfl) ?_
  refine gXV (gs := [[(h, .inr (5, [.ref (Ad 0), .ref (At 0), .ref (As 0), .ref (Ac 0), .ref (L 6 0)]))], dyW cyI Ad D, hiW cyI cyO L V, [(ao, .inl (cyJ, 1, .inr (.inl (fo))))]]) (As := [.int (nI (k))]) (rest := [.int ((0 : Int32)), .ref (ao)]) ⟨hx, hb, hml, hown, hts⟩ (x_X5_leave_IS l G cyI cyO h Ad At As Ac L D k hk hm htr) (cwV 1 hts gL_leave_X5_leave rfl rfl rfl (by decide +kernel) ⟨Nat.le_of_ble_eq_true rfl, Nat.le_of_ble_eq_true rfl⟩) hK2 hX hP hD hS hA [0, 1] rfl rfl 0 5 rfl rfl rfl hl.1 rfl (Nat.le_of_ble_eq_true rfl) dL_leave_4 ⟨Nat.le_refl _, Nat.le_refl _⟩ (fun ce9 q9 H locs hP hD hS hce hcv hcl => ?_)
  refine vx_catch (E := xIS) (name := xIS) hown [⟨0, 9, 12, 20⟩] ⟨0, 9, 15, 15⟩ [] htab (fun z h9 => by cases List.mem_singleton.mp h9; exact Or.inr ⟨by decide, xIO, hts (.classLink RL 20 xIO) (by decide +kernel), hX.2.2.2.2.2 (xIS, xIO) (by decide)⟩) (by decide) (by decide) (hts (.classLink RL 15 xIS) (by decide +kernel)) (va_Nw.use rfl (hX.2.2.2.1 xIS (by decide))) hce hcv hcl ?_
  refine W.eq (g2 := F0 m9 15 ls [.ref q9]) rfl ?_
  refine lv_astore_n (lv' := [(3, .ref (q9)), (0, .ref (h)), (1, .int (nI (k))), (2, .ref (ao))]) hx hb dL_leave_15 rfl hl (by decide) rfl (fun ls hl => ?_)
  refine lv_iconst (v := (2 : Int32)) hx hb dL_leave_16 (by decide) ?_
  refine W.widen (k := 1) (n := 6) (by decide) (by decide) ?_
  have hP : va_P G vwCl (cat [[(h, .inr (5, [.ref (Ad 0), .ref (At 0), .ref (As 0), .ref (Ac 0), .ref (L 6 0)]))], dyW cyI Ad D, hiW cyI cyO L V, [(ao, .inl (cyJ, 1, .inr (.inl (fo))))]]) H := hP
  have hD : va_D A9 (cat [[(h, .inr (5, [.ref (Ad 0), .ref (At 0), .ref (As 0), .ref (Ac 0), .ref (L 6 0)]))], dyW cyI Ad D, hiW cyI cyO L V, [(ao, .inl (cyJ, 1, .inr (.inl (fo))))]]) := hD
  exact end_i hx hb hr hlocks hK hP hD hS (rfl) dL_leave_17
abbrev rh_L_pints : Room := { frames := 8, cells := 1, slots := 6, locals := 124 }
set_option maxHeartbeats 4000000 in
set_option maxRecDepth 100000 in
theorem n_L_pints (l : Launch) (G : va_G) (cyI cyO cyJ : ClassId) (h : Nat) (Ad At As Ac : Nat → Nat) (L : Nat → Nat → Nat) (D : DS) (hn : D.2.2.2.2.2.1 ≤ 20) (k : Nat) (hk : k < D.2.2.2.2.2.1) (ao : Nat) (fo : Nat → Int64) : CH l G (TY3 cyI cyO cyJ) yL_pints wsL_pints rh_L_pints [.ref (h), .int (nI (k)), .ref (ao)] [[(h, .inr (5, [.ref (Ad 0), .ref (At 0), .ref (As 0), .ref (Ac 0), .ref (L 6 0)]))], dyW cyI Ad D, [(ao, .inl (cyJ, 1, .inr (.inl (fo))))]] ((0 : Int32)) [[(h, .inr (5, [.ref (Ad 0), .ref (At 0), .ref (As 0), .ref (Ac 0), .ref (L 6 0)]))], dyW cyI Ad D, [(ao, .inl (cyJ, 1, .inr (.inl (vp_updL fo 0 ((D.1 k).toInt64)))))]] := by
  refine wk_H (cc := cL_pints) (maxL := 4) (ret := (some .int)) (hh := [(0, 9, 12, 20)]) (by decide) rfl (Nat.le_of_ble_eq_true rfl) ?_
  intro p9 e9 s9 m9 b9 t9 c9 A9 ls hx hb hr hts hown hlocks hml hK hA hD hP hl hS hX htab
  have hK2 := hK.sub [0, 1] (tys' := TY cyI cyO) rfl
  have hl : lv_has ls 4 [(0, .ref (h)), (1, .int (nI (k))), (2, .ref (ao))] := hl
  refine lv_aload_n hx hb dL_pints_0 rfl (lv_at hl 2 rfl) ?_
  refine lv_iconst (v := (0 : Int32)) hx hb dL_pints_1 (by decide) ?_
  refine lv_aload_n hx hb dL_pints_2 rfl (lv_at hl 0 rfl) ?_
  refine lv_iload_n hx hb dL_pints_3 rfl (lv_at hl 1 rfl) ?_
  refine gVi (gs := [[(h, .inr (5, [.ref (Ad 0), .ref (At 0), .ref (As 0), .ref (Ac 0), .ref (L 6 0)]))], dyW cyI Ad D, [(ao, .inl (cyJ, 1, .inr (.inl (fo))))]]) (As := [.int (nI (k))]) (rest := [.int ((0 : Int32)), .ref (ao)]) ⟨hx, hb, hml, hown, hts⟩ (c_X5_pints l G cyI cyO h Ad At As Ac L D hn k hk) (cwV 1 hts gL_pints_X5_pints rfl rfl rfl (by decide +kernel) ⟨Nat.le_of_ble_eq_true rfl, Nat.le_of_ble_eq_true rfl⟩) hK2 hP hD hS hA [0, 1] rfl rfl rfl 0 5 rfl rfl rfl hl.1 rfl (Nat.le_of_ble_eq_true rfl) dL_pints_4 ⟨Nat.zero_le _, Nat.zero_le _⟩ (fun H locs hP hD hS => ?_)
  have hP : va_P G vwCl (cat [[(h, .inr (5, [.ref (Ad 0), .ref (At 0), .ref (As 0), .ref (Ac 0), .ref (L 6 0)]))], dyW cyI Ad D, [(ao, .inl (cyJ, 1, .inr (.inl (fo))))]]) H := hP
  have hD : va_D A9 (cat [[(h, .inr (5, [.ref (Ad 0), .ref (At 0), .ref (As 0), .ref (Ac 0), .ref (L 6 0)]))], dyW cyI Ad D, [(ao, .inl (cyJ, 1, .inr (.inl (fo))))]]) := hD
  refine lv_i2l (v := (D.1 k).toInt64) hx hb dL_pints_7 rfl ?_
  refine va_last (f := fo) hx hb hK hP hD hS 12 2 rfl rfl in01 dL_pints_8 (fun H locs hP hD hS => ?_)
  have hP : va_P G vwCl (cat [[(h, .inr (5, [.ref (Ad 0), .ref (At 0), .ref (As 0), .ref (Ac 0), .ref (L 6 0)]))], dyW cyI Ad D, [(ao, .inl (cyJ, 1, .inr (.inl (vp_updL fo 0 ((D.1 k).toInt64)))))]]) H := hP
  have hD : va_D A9 (cat [[(h, .inr (5, [.ref (Ad 0), .ref (At 0), .ref (As 0), .ref (Ac 0), .ref (L 6 0)]))], dyW cyI Ad D, [(ao, .inl (cyJ, 1, .inr (.inl (vp_updL fo 0 ((D.1 k).toInt64)))))]]) := hD
  refine lv_goto (tgt := 15) hx hb dL_pints_9 (by decide) ?_
  refine lv_iconst (v := (0 : Int32)) hx hb dL_pints_15 (by decide) ?_
  refine W.widen (k := 1) (n := 6) (by decide) (by decide) ?_
  have hP : va_P G vwCl (cat [[(h, .inr (5, [.ref (Ad 0), .ref (At 0), .ref (As 0), .ref (Ac 0), .ref (L 6 0)]))], dyW cyI Ad D, [(ao, .inl (cyJ, 1, .inr (.inl (vp_updL fo 0 ((D.1 k).toInt64)))))]]) H := hP
  have hD : va_D A9 (cat [[(h, .inr (5, [.ref (Ad 0), .ref (At 0), .ref (As 0), .ref (Ac 0), .ref (L 6 0)]))], dyW cyI Ad D, [(ao, .inl (cyJ, 1, .inr (.inl (vp_updL fo 0 ((D.1 k).toInt64)))))]]) := hD
  exact end_i hx hb hr hlocks hK hP hD hS (rfl) dL_pints_16
set_option maxHeartbeats 4000000 in
set_option maxRecDepth 100000 in
theorem t_L_pints_IO (l : Launch) (G : va_G) (cyI cyO cyJ : ClassId) (h : Nat) (Ad At As Ac : Nat → Nat) (L : Nat → Nat → Nat) (D : DS) (hn : D.2.2.2.2.2.1 ≤ 20) (x : Int32) (hx9 : dHas D.2.2.2.2.2.1 x = false) (ao : Nat) (fo : Nat → Int64) (htr : l.stackTraces = false) : CH l G (TY3 cyI cyO cyJ) yL_pints wsL_pints rh_L_pints [.ref (h), .int (x), .ref (ao)] [[(h, .inr (5, [.ref (Ad 0), .ref (At 0), .ref (As 0), .ref (Ac 0), .ref (L 6 0)]))], dyW cyI Ad D, [(ao, .inl (cyJ, 1, .inr (.inl (fo))))]] ((1 : Int32)) [[(h, .inr (5, [.ref (Ad 0), .ref (At 0), .ref (As 0), .ref (Ac 0), .ref (L 6 0)]))], dyW cyI Ad D, [(ao, .inl (cyJ, 1, .inr (.inl (fo))))]] := by
  refine wk_H (cc := cL_pints) (maxL := 4) (ret := (some .int)) (hh := [(0, 9, 12, 20)]) (by decide) rfl (Nat.le_of_ble_eq_true rfl) ?_
  intro p9 e9 s9 m9 b9 t9 c9 A9 ls hx hb hr hts hown hlocks hml hK hA hD hP hl hS hX htab
  have hK2 := hK.sub [0, 1] (tys' := TY cyI cyO) rfl
  have hl : lv_has ls 4 [(0, .ref (h)), (1, .int (x)), (2, .ref (ao))] := hl
  refine lv_aload_n hx hb dL_pints_0 rfl (lv_at hl 2 rfl) ?_
  refine lv_iconst (v := (0 : Int32)) hx hb dL_pints_1 (by decide) ?_
  refine lv_aload_n hx hb dL_pints_2 rfl (lv_at hl 0 rfl) ?_
  refine lv_iload_n hx hb dL_pints_3 rfl (lv_at hl 1 rfl) ?_
  refine gXV (gs := [[(h, .inr (5, [.ref (Ad 0), .ref (At 0), .ref (As 0), .ref (Ac 0), .ref (L 6 0)]))], dyW cyI Ad D, [(ao, .inl (cyJ, 1, .inr (.inl (fo))))]]) (As := [.int (x)]) (rest := [.int ((0 : Int32)), .ref (ao)]) ⟨hx, hb, hml, hown, hts⟩ (x_X5_pints_IO l G cyI cyO h Ad At As Ac L D hn x hx9 htr) (cwV 1 hts gL_pints_X5_pints rfl rfl rfl (by decide +kernel) ⟨Nat.le_of_ble_eq_true rfl, Nat.le_of_ble_eq_true rfl⟩) hK2 hX hP hD hS hA [0, 1] rfl rfl 0 5 rfl rfl rfl hl.1 rfl (Nat.le_of_ble_eq_true rfl) dL_pints_4 ⟨Nat.le_refl _, Nat.le_refl _⟩ (fun ce9 q9 H locs hP hD hS hce hcv hcl => ?_)
  refine vx_catch (E := xIO) (name := xIO) hown [] ⟨0, 9, 12, 20⟩ [] htab (fun _ h9 => nomatch h9) (by decide) (by decide) (hts (.classLink RL 20 xIO) (by decide +kernel)) (va_Nw.use rfl (hX.2.2.2.1 xIO (by decide))) hce hcv hcl ?_
  refine W.eq (g2 := F0 m9 12 ls [.ref q9]) rfl ?_
  refine lv_astore_n (lv' := [(3, .ref (q9)), (0, .ref (h)), (1, .int (x)), (2, .ref (ao))]) hx hb dL_pints_12 rfl hl (by decide) rfl (fun ls hl => ?_)
  refine lv_iconst (v := (1 : Int32)) hx hb dL_pints_13 (by decide) ?_
  refine W.widen (k := 1) (n := 6) (by decide) (by decide) ?_
  have hP : va_P G vwCl (cat [[(h, .inr (5, [.ref (Ad 0), .ref (At 0), .ref (As 0), .ref (Ac 0), .ref (L 6 0)]))], dyW cyI Ad D, [(ao, .inl (cyJ, 1, .inr (.inl (fo))))]]) H := hP
  have hD : va_D A9 (cat [[(h, .inr (5, [.ref (Ad 0), .ref (At 0), .ref (As 0), .ref (Ac 0), .ref (L 6 0)]))], dyW cyI Ad D, [(ao, .inl (cyJ, 1, .inr (.inl (fo))))]]) := hD
  exact end_i hx hb hr hlocks hK hP hD hS (rfl) dL_pints_14
abbrev rh_L_owner : Room := { frames := 8, cells := 1, slots := 6, locals := 124 }
set_option maxHeartbeats 4000000 in
set_option maxRecDepth 100000 in
theorem n_L_owner (l : Launch) (G : va_G) (cyI cyO cyJ : ClassId) (h : Nat) (Ad At As Ac : Nat → Nat) (L : Nat → Nat → Nat) (D : DS) (hn : D.2.2.2.2.2.1 ≤ 20) (k : Nat) (hk : k < D.2.2.2.2.2.1) (ao : Nat) (fo : Nat → Int64) : CH l G (TY3 cyI cyO cyJ) yL_owner wsL_owner rh_L_owner [.ref (h), .int (nI (k)), .ref (ao)] [[(h, .inr (5, [.ref (Ad 0), .ref (At 0), .ref (As 0), .ref (Ac 0), .ref (L 6 0)]))], dyW cyI Ad D, [(ao, .inl (cyJ, 1, .inr (.inl (fo))))]] ((0 : Int32)) [[(h, .inr (5, [.ref (Ad 0), .ref (At 0), .ref (As 0), .ref (Ac 0), .ref (L 6 0)]))], dyW cyI Ad D, [(ao, .inl (cyJ, 1, .inr (.inl (vp_updL fo 0 ((D.2.1 k).toInt64)))))]] := by
  refine wk_H (cc := cL_owner) (maxL := 4) (ret := (some .int)) (hh := [(0, 9, 12, 20)]) (by decide) rfl (Nat.le_of_ble_eq_true rfl) ?_
  intro p9 e9 s9 m9 b9 t9 c9 A9 ls hx hb hr hts hown hlocks hml hK hA hD hP hl hS hX htab
  have hK2 := hK.sub [0, 1] (tys' := TY cyI cyO) rfl
  have hl : lv_has ls 4 [(0, .ref (h)), (1, .int (nI (k))), (2, .ref (ao))] := hl
  refine lv_aload_n hx hb dL_owner_0 rfl (lv_at hl 2 rfl) ?_
  refine lv_iconst (v := (0 : Int32)) hx hb dL_owner_1 (by decide) ?_
  refine lv_aload_n hx hb dL_owner_2 rfl (lv_at hl 0 rfl) ?_
  refine lv_iload_n hx hb dL_owner_3 rfl (lv_at hl 1 rfl) ?_
  refine gVi (gs := [[(h, .inr (5, [.ref (Ad 0), .ref (At 0), .ref (As 0), .ref (Ac 0), .ref (L 6 0)]))], dyW cyI Ad D, [(ao, .inl (cyJ, 1, .inr (.inl (fo))))]]) (As := [.int (nI (k))]) (rest := [.int ((0 : Int32)), .ref (ao)]) ⟨hx, hb, hml, hown, hts⟩ (c_X5_owner l G cyI cyO h Ad At As Ac L D hn k hk) (cwV 1 hts gL_owner_X5_owner rfl rfl rfl (by decide +kernel) ⟨Nat.le_of_ble_eq_true rfl, Nat.le_of_ble_eq_true rfl⟩) hK2 hP hD hS hA [0, 1] rfl rfl rfl 0 5 rfl rfl rfl hl.1 rfl (Nat.le_of_ble_eq_true rfl) dL_owner_4 ⟨Nat.zero_le _, Nat.zero_le _⟩ (fun H locs hP hD hS => ?_)
  have hP : va_P G vwCl (cat [[(h, .inr (5, [.ref (Ad 0), .ref (At 0), .ref (As 0), .ref (Ac 0), .ref (L 6 0)]))], dyW cyI Ad D, [(ao, .inl (cyJ, 1, .inr (.inl (fo))))]]) H := hP
  have hD : va_D A9 (cat [[(h, .inr (5, [.ref (Ad 0), .ref (At 0), .ref (As 0), .ref (Ac 0), .ref (L 6 0)]))], dyW cyI Ad D, [(ao, .inl (cyJ, 1, .inr (.inl (fo))))]]) := hD
  refine lv_i2l (v := (D.2.1 k).toInt64) hx hb dL_owner_7 rfl ?_
  refine va_last (f := fo) hx hb hK hP hD hS 12 2 rfl rfl in01 dL_owner_8 (fun H locs hP hD hS => ?_)
  have hP : va_P G vwCl (cat [[(h, .inr (5, [.ref (Ad 0), .ref (At 0), .ref (As 0), .ref (Ac 0), .ref (L 6 0)]))], dyW cyI Ad D, [(ao, .inl (cyJ, 1, .inr (.inl (vp_updL fo 0 ((D.2.1 k).toInt64)))))]]) H := hP
  have hD : va_D A9 (cat [[(h, .inr (5, [.ref (Ad 0), .ref (At 0), .ref (As 0), .ref (Ac 0), .ref (L 6 0)]))], dyW cyI Ad D, [(ao, .inl (cyJ, 1, .inr (.inl (vp_updL fo 0 ((D.2.1 k).toInt64)))))]]) := hD
  refine lv_goto (tgt := 15) hx hb dL_owner_9 (by decide) ?_
  refine lv_iconst (v := (0 : Int32)) hx hb dL_owner_15 (by decide) ?_
  refine W.widen (k := 1) (n := 6) (by decide) (by decide) ?_
  have hP : va_P G vwCl (cat [[(h, .inr (5, [.ref (Ad 0), .ref (At 0), .ref (As 0), .ref (Ac 0), .ref (L 6 0)]))], dyW cyI Ad D, [(ao, .inl (cyJ, 1, .inr (.inl (vp_updL fo 0 ((D.2.1 k).toInt64)))))]]) H := hP
  have hD : va_D A9 (cat [[(h, .inr (5, [.ref (Ad 0), .ref (At 0), .ref (As 0), .ref (Ac 0), .ref (L 6 0)]))], dyW cyI Ad D, [(ao, .inl (cyJ, 1, .inr (.inl (vp_updL fo 0 ((D.2.1 k).toInt64)))))]]) := hD
  exact end_i hx hb hr hlocks hK hP hD hS (rfl) dL_owner_16
set_option maxHeartbeats 4000000 in
set_option maxRecDepth 100000 in
theorem t_L_owner_IO (l : Launch) (G : va_G) (cyI cyO cyJ : ClassId) (h : Nat) (Ad At As Ac : Nat → Nat) (L : Nat → Nat → Nat) (D : DS) (hn : D.2.2.2.2.2.1 ≤ 20) (x : Int32) (hx9 : dHas D.2.2.2.2.2.1 x = false) (ao : Nat) (fo : Nat → Int64) (htr : l.stackTraces = false) : CH l G (TY3 cyI cyO cyJ) yL_owner wsL_owner rh_L_owner [.ref (h), .int (x), .ref (ao)] [[(h, .inr (5, [.ref (Ad 0), .ref (At 0), .ref (As 0), .ref (Ac 0), .ref (L 6 0)]))], dyW cyI Ad D, [(ao, .inl (cyJ, 1, .inr (.inl (fo))))]] ((1 : Int32)) [[(h, .inr (5, [.ref (Ad 0), .ref (At 0), .ref (As 0), .ref (Ac 0), .ref (L 6 0)]))], dyW cyI Ad D, [(ao, .inl (cyJ, 1, .inr (.inl (fo))))]] := by
  refine wk_H (cc := cL_owner) (maxL := 4) (ret := (some .int)) (hh := [(0, 9, 12, 20)]) (by decide) rfl (Nat.le_of_ble_eq_true rfl) ?_
  intro p9 e9 s9 m9 b9 t9 c9 A9 ls hx hb hr hts hown hlocks hml hK hA hD hP hl hS hX htab
  have hK2 := hK.sub [0, 1] (tys' := TY cyI cyO) rfl
  have hl : lv_has ls 4 [(0, .ref (h)), (1, .int (x)), (2, .ref (ao))] := hl
  refine lv_aload_n hx hb dL_owner_0 rfl (lv_at hl 2 rfl) ?_
  refine lv_iconst (v := (0 : Int32)) hx hb dL_owner_1 (by decide) ?_
  refine lv_aload_n hx hb dL_owner_2 rfl (lv_at hl 0 rfl) ?_
  refine lv_iload_n hx hb dL_owner_3 rfl (lv_at hl 1 rfl) ?_
  refine gXV (gs := [[(h, .inr (5, [.ref (Ad 0), .ref (At 0), .ref (As 0), .ref (Ac 0), .ref (L 6 0)]))], dyW cyI Ad D, [(ao, .inl (cyJ, 1, .inr (.inl (fo))))]]) (As := [.int (x)]) (rest := [.int ((0 : Int32)), .ref (ao)]) ⟨hx, hb, hml, hown, hts⟩ (x_X5_owner_IO l G cyI cyO h Ad At As Ac L D hn x hx9 htr) (cwV 1 hts gL_owner_X5_owner rfl rfl rfl (by decide +kernel) ⟨Nat.le_of_ble_eq_true rfl, Nat.le_of_ble_eq_true rfl⟩) hK2 hX hP hD hS hA [0, 1] rfl rfl 0 5 rfl rfl rfl hl.1 rfl (Nat.le_of_ble_eq_true rfl) dL_owner_4 ⟨Nat.le_refl _, Nat.le_refl _⟩ (fun ce9 q9 H locs hP hD hS hce hcv hcl => ?_)
  refine vx_catch (E := xIO) (name := xIO) hown [] ⟨0, 9, 12, 20⟩ [] htab (fun _ h9 => nomatch h9) (by decide) (by decide) (hts (.classLink RL 20 xIO) (by decide +kernel)) (va_Nw.use rfl (hX.2.2.2.1 xIO (by decide))) hce hcv hcl ?_
  refine W.eq (g2 := F0 m9 12 ls [.ref q9]) rfl ?_
  refine lv_astore_n (lv' := [(3, .ref (q9)), (0, .ref (h)), (1, .int (x)), (2, .ref (ao))]) hx hb dL_owner_12 rfl hl (by decide) rfl (fun ls hl => ?_)
  refine lv_iconst (v := (1 : Int32)) hx hb dL_owner_13 (by decide) ?_
  refine W.widen (k := 1) (n := 6) (by decide) (by decide) ?_
  have hP : va_P G vwCl (cat [[(h, .inr (5, [.ref (Ad 0), .ref (At 0), .ref (As 0), .ref (Ac 0), .ref (L 6 0)]))], dyW cyI Ad D, [(ao, .inl (cyJ, 1, .inr (.inl (fo))))]]) H := hP
  have hD : va_D A9 (cat [[(h, .inr (5, [.ref (Ad 0), .ref (At 0), .ref (As 0), .ref (Ac 0), .ref (L 6 0)]))], dyW cyI Ad D, [(ao, .inl (cyJ, 1, .inr (.inl (fo))))]]) := hD
  exact end_i hx hb hr hlocks hK hP hD hS (rfl) dL_owner_14
abbrev rh_L_isAtWork : Room := { frames := 8, cells := 1, slots := 6, locals := 123 }
set_option maxHeartbeats 4000000 in
set_option maxRecDepth 100000 in
theorem n_L_isAtWork (l : Launch) (G : va_G) (cyI cyO cyJ : ClassId) (h : Nat) (Ad At As Ac : Nat → Nat) (L : Nat → Nat → Nat) (D : DS) (k : Nat) (hk : k < 6) (ao : Nat) (fo : Nat → Int64) : CH l G (TY3 cyI cyO cyJ) yL_isAtWork wsL_isAtWork rh_L_isAtWork [.ref (h), .int (nI (k)), .ref (ao)] [[(h, .inr (5, [.ref (Ad 0), .ref (At 0), .ref (As 0), .ref (Ac 0), .ref (L 6 0)]))], dyW cyI Ad D, [(ao, .inl (cyJ, 1, .inr (.inl (fo))))]] ((0 : Int32)) [[(h, .inr (5, [.ref (Ad 0), .ref (At 0), .ref (As 0), .ref (Ac 0), .ref (L 6 0)]))], dyW cyI Ad D, [(ao, .inl (cyJ, 1, .inr (.inl (vp_updL fo 0 (bL (decide (D.2.2.1 k = 1)))))))]] := by
  refine wk_H (cc := cL_isAtWork) (maxL := 4) (ret := (some .int)) (hh := [(0, 16, 19, 20)]) (by decide) rfl (Nat.le_of_ble_eq_true rfl) ?_
  intro p9 e9 s9 m9 b9 t9 c9 A9 ls hx hb hr hts hown hlocks hml hK hA hD hP hl hS hX htab
  have hK2 := hK.sub [0, 1] (tys' := TY cyI cyO) rfl
  have hl : lv_has ls 4 [(0, .ref (h)), (1, .int (nI (k))), (2, .ref (ao))] := hl
  refine lv_aload_n hx hb dL_isAtWork_0 rfl (lv_at hl 2 rfl) ?_
  refine lv_iconst (v := (0 : Int32)) hx hb dL_isAtWork_1 (by decide) ?_
  refine lv_aload_n hx hb dL_isAtWork_2 rfl (lv_at hl 0 rfl) ?_
  refine lv_iload_n hx hb dL_isAtWork_3 rfl (lv_at hl 1 rfl) ?_
  refine gVi (gs := [[(h, .inr (5, [.ref (Ad 0), .ref (At 0), .ref (As 0), .ref (Ac 0), .ref (L 6 0)]))], dyW cyI Ad D, [(ao, .inl (cyJ, 1, .inr (.inl (fo))))]]) (As := [.int (nI (k))]) (rest := [.int ((0 : Int32)), .ref (ao)]) ⟨hx, hb, hml, hown, hts⟩ (c_X5_isAtWork l G cyI cyO h Ad At As Ac L D k hk) (cwV 1 hts gL_isAtWork_X5_isAtWork rfl rfl rfl (by decide +kernel) ⟨Nat.le_of_ble_eq_true rfl, Nat.le_of_ble_eq_true rfl⟩) hK2 hP hD hS hA [0, 1] rfl rfl rfl 0 5 rfl rfl rfl hl.1 rfl (Nat.le_of_ble_eq_true rfl) dL_isAtWork_4 ⟨Nat.zero_le _, Nat.zero_le _⟩ (fun H locs hP hD hS => ?_)
  have hP : va_P G vwCl (cat [[(h, .inr (5, [.ref (Ad 0), .ref (At 0), .ref (As 0), .ref (Ac 0), .ref (L 6 0)]))], dyW cyI Ad D, [(ao, .inl (cyJ, 1, .inr (.inl (fo))))]]) H := hP
  have hD : va_D A9 (cat [[(h, .inr (5, [.ref (Ad 0), .ref (At 0), .ref (As 0), .ref (Ac 0), .ref (L 6 0)]))], dyW cyI Ad D, [(ao, .inl (cyJ, 1, .inr (.inl (fo))))]]) := hD
  refine lv_if_eq (tgt := 14) hx hb dL_isAtWork_7 (by decide) (fun c_7 => ?_) (fun c_7 => ?_)
  · have c_7 : (decide (D.2.2.1 k = 1)) = false := bI_z.mp c_7
    have c_7 : ¬ (D.2.2.1 k = 1) := of_decide_eq_false c_7
    refine lv_lconst (v := (0 : Int64)) hx hb dL_isAtWork_14 (by decide) ?_
    refine va_last (f := fo) hx hb hK hP hD hS 12 2 rfl rfl in01 dL_isAtWork_15 (fun H locs hP hD hS => ?_)
    have hP : va_P G vwCl (cat [[(h, .inr (5, [.ref (Ad 0), .ref (At 0), .ref (As 0), .ref (Ac 0), .ref (L 6 0)]))], dyW cyI Ad D, [(ao, .inl (cyJ, 1, .inr (.inl (vp_updL fo 0 ((0 : Int64))))))]]) H := hP
    have hD : va_D A9 (cat [[(h, .inr (5, [.ref (Ad 0), .ref (At 0), .ref (As 0), .ref (Ac 0), .ref (L 6 0)]))], dyW cyI Ad D, [(ao, .inl (cyJ, 1, .inr (.inl (vp_updL fo 0 ((0 : Int64))))))]]) := hD
    refine lv_goto (tgt := 22) hx hb dL_isAtWork_16 (by decide) ?_
    refine lv_iconst (v := (0 : Int32)) hx hb dL_isAtWork_22 (by decide) ?_
    refine W.widen (k := 1) (n := 6) (by decide) (by decide) ?_
    have hgo : cat [[(h, .inr (5, [.ref (Ad 0), .ref (At 0), .ref (As 0), .ref (Ac 0), .ref (L 6 0)]))], dyW cyI Ad D, [(ao, .inl (cyJ, 1, .inr (.inl (vp_updL fo 0 ((0 : Int64))))))]] = cat [[(h, .inr (5, [.ref (Ad 0), .ref (At 0), .ref (As 0), .ref (Ac 0), .ref (L 6 0)]))], dyW cyI Ad D, [(ao, .inl (cyJ, 1, .inr (.inl (vp_updL fo 0 (bL (decide (D.2.2.1 k = 1)))))))]] := by first | rw [bL_t c_7] | rw [bL_f c_7]
    rw [hgo] at hP hD
    have hP : va_P G vwCl (cat [[(h, .inr (5, [.ref (Ad 0), .ref (At 0), .ref (As 0), .ref (Ac 0), .ref (L 6 0)]))], dyW cyI Ad D, [(ao, .inl (cyJ, 1, .inr (.inl (vp_updL fo 0 (bL (decide (D.2.2.1 k = 1)))))))]]) H := hP
    have hD : va_D A9 (cat [[(h, .inr (5, [.ref (Ad 0), .ref (At 0), .ref (As 0), .ref (Ac 0), .ref (L 6 0)]))], dyW cyI Ad D, [(ao, .inl (cyJ, 1, .inr (.inl (vp_updL fo 0 (bL (decide (D.2.2.1 k = 1)))))))]]) := hD
    exact end_i hx hb hr hlocks hK hP hD hS (rfl) dL_isAtWork_23
  · have c_7 : (decide (D.2.2.1 k = 1)) = true := bI_nz.mp c_7
    have c_7 : (D.2.2.1 k = 1) := of_decide_eq_true c_7
    refine lv_lconst (v := (1 : Int64)) hx hb dL_isAtWork_10 (by decide) ?_
    refine lv_goto (tgt := 15) hx hb dL_isAtWork_11 (by decide) ?_
    refine va_last (f := fo) hx hb hK hP hD hS 12 2 rfl rfl in01 dL_isAtWork_15 (fun H locs hP hD hS => ?_)
    have hP : va_P G vwCl (cat [[(h, .inr (5, [.ref (Ad 0), .ref (At 0), .ref (As 0), .ref (Ac 0), .ref (L 6 0)]))], dyW cyI Ad D, [(ao, .inl (cyJ, 1, .inr (.inl (vp_updL fo 0 ((1 : Int64))))))]]) H := hP
    have hD : va_D A9 (cat [[(h, .inr (5, [.ref (Ad 0), .ref (At 0), .ref (As 0), .ref (Ac 0), .ref (L 6 0)]))], dyW cyI Ad D, [(ao, .inl (cyJ, 1, .inr (.inl (vp_updL fo 0 ((1 : Int64))))))]]) := hD
    refine lv_goto (tgt := 22) hx hb dL_isAtWork_16 (by decide) ?_
    refine lv_iconst (v := (0 : Int32)) hx hb dL_isAtWork_22 (by decide) ?_
    refine W.widen (k := 1) (n := 6) (by decide) (by decide) ?_
    have hgo : cat [[(h, .inr (5, [.ref (Ad 0), .ref (At 0), .ref (As 0), .ref (Ac 0), .ref (L 6 0)]))], dyW cyI Ad D, [(ao, .inl (cyJ, 1, .inr (.inl (vp_updL fo 0 ((1 : Int64))))))]] = cat [[(h, .inr (5, [.ref (Ad 0), .ref (At 0), .ref (As 0), .ref (Ac 0), .ref (L 6 0)]))], dyW cyI Ad D, [(ao, .inl (cyJ, 1, .inr (.inl (vp_updL fo 0 (bL (decide (D.2.2.1 k = 1)))))))]] := by first | rw [bL_t c_7] | rw [bL_f c_7]
    rw [hgo] at hP hD
    have hP : va_P G vwCl (cat [[(h, .inr (5, [.ref (Ad 0), .ref (At 0), .ref (As 0), .ref (Ac 0), .ref (L 6 0)]))], dyW cyI Ad D, [(ao, .inl (cyJ, 1, .inr (.inl (vp_updL fo 0 (bL (decide (D.2.2.1 k = 1)))))))]]) H := hP
    have hD : va_D A9 (cat [[(h, .inr (5, [.ref (Ad 0), .ref (At 0), .ref (As 0), .ref (Ac 0), .ref (L 6 0)]))], dyW cyI Ad D, [(ao, .inl (cyJ, 1, .inr (.inl (vp_updL fo 0 (bL (decide (D.2.2.1 k = 1)))))))]]) := hD
    exact end_i hx hb hr hlocks hK hP hD hS (rfl) dL_isAtWork_23
set_option maxHeartbeats 4000000 in
set_option maxRecDepth 100000 in
theorem t_L_isAtWork_IO (l : Launch) (G : va_G) (cyI cyO cyJ : ClassId) (h : Nat) (Ad At As Ac : Nat → Nat) (L : Nat → Nat → Nat) (D : DS) (x : Int32) (hx9 : isDig x 0 5 = false) (ao : Nat) (fo : Nat → Int64) (htr : l.stackTraces = false) : CH l G (TY3 cyI cyO cyJ) yL_isAtWork wsL_isAtWork rh_L_isAtWork [.ref (h), .int (x), .ref (ao)] [[(h, .inr (5, [.ref (Ad 0), .ref (At 0), .ref (As 0), .ref (Ac 0), .ref (L 6 0)]))], dyW cyI Ad D, [(ao, .inl (cyJ, 1, .inr (.inl (fo))))]] ((1 : Int32)) [[(h, .inr (5, [.ref (Ad 0), .ref (At 0), .ref (As 0), .ref (Ac 0), .ref (L 6 0)]))], dyW cyI Ad D, [(ao, .inl (cyJ, 1, .inr (.inl (fo))))]] := by
  refine wk_H (cc := cL_isAtWork) (maxL := 4) (ret := (some .int)) (hh := [(0, 16, 19, 20)]) (by decide) rfl (Nat.le_of_ble_eq_true rfl) ?_
  intro p9 e9 s9 m9 b9 t9 c9 A9 ls hx hb hr hts hown hlocks hml hK hA hD hP hl hS hX htab
  have hK2 := hK.sub [0, 1] (tys' := TY cyI cyO) rfl
  have hl : lv_has ls 4 [(0, .ref (h)), (1, .int (x)), (2, .ref (ao))] := hl
  refine lv_aload_n hx hb dL_isAtWork_0 rfl (lv_at hl 2 rfl) ?_
  refine lv_iconst (v := (0 : Int32)) hx hb dL_isAtWork_1 (by decide) ?_
  refine lv_aload_n hx hb dL_isAtWork_2 rfl (lv_at hl 0 rfl) ?_
  refine lv_iload_n hx hb dL_isAtWork_3 rfl (lv_at hl 1 rfl) ?_
  refine gXV (gs := [[(h, .inr (5, [.ref (Ad 0), .ref (At 0), .ref (As 0), .ref (Ac 0), .ref (L 6 0)]))], dyW cyI Ad D, [(ao, .inl (cyJ, 1, .inr (.inl (fo))))]]) (As := [.int (x)]) (rest := [.int ((0 : Int32)), .ref (ao)]) ⟨hx, hb, hml, hown, hts⟩ (x_X5_isAtWork_IO l G cyI cyO h Ad At As Ac L D x hx9 htr) (cwV 1 hts gL_isAtWork_X5_isAtWork rfl rfl rfl (by decide +kernel) ⟨Nat.le_of_ble_eq_true rfl, Nat.le_of_ble_eq_true rfl⟩) hK2 hX hP hD hS hA [0, 1] rfl rfl 0 5 rfl rfl rfl hl.1 rfl (Nat.le_of_ble_eq_true rfl) dL_isAtWork_4 ⟨Nat.le_refl _, Nat.le_refl _⟩ (fun ce9 q9 H locs hP hD hS hce hcv hcl => ?_)
  refine vx_catch (E := xIO) (name := xIO) hown [] ⟨0, 16, 19, 20⟩ [] htab (fun _ h9 => nomatch h9) (by decide) (by decide) (hts (.classLink RL 20 xIO) (by decide +kernel)) (va_Nw.use rfl (hX.2.2.2.1 xIO (by decide))) hce hcv hcl ?_
  refine W.eq (g2 := F0 m9 19 ls [.ref q9]) rfl ?_
  refine lv_astore_n (lv' := [(3, .ref (q9)), (0, .ref (h)), (1, .int (x)), (2, .ref (ao))]) hx hb dL_isAtWork_19 rfl hl (by decide) rfl (fun ls hl => ?_)
  refine lv_iconst (v := (1 : Int32)) hx hb dL_isAtWork_20 (by decide) ?_
  refine W.widen (k := 1) (n := 6) (by decide) (by decide) ?_
  have hP : va_P G vwCl (cat [[(h, .inr (5, [.ref (Ad 0), .ref (At 0), .ref (As 0), .ref (Ac 0), .ref (L 6 0)]))], dyW cyI Ad D, [(ao, .inl (cyJ, 1, .inr (.inl (fo))))]]) H := hP
  have hD : va_D A9 (cat [[(h, .inr (5, [.ref (Ad 0), .ref (At 0), .ref (As 0), .ref (Ac 0), .ref (L 6 0)]))], dyW cyI Ad D, [(ao, .inl (cyJ, 1, .inr (.inl (fo))))]]) := hD
  exact end_i hx hb hr hlocks hK hP hD hS (rfl) dL_isAtWork_21
abbrev rh_L_size : Room := { frames := 8, cells := 1, slots := 6, locals := 123 }
set_option maxHeartbeats 4000000 in
set_option maxRecDepth 100000 in
theorem n_L_size (l : Launch) (G : va_G) (cyI cyO cyJ : ClassId) (h : Nat) (Ad At As Ac : Nat → Nat) (L : Nat → Nat → Nat) (D : DS) (hn : D.2.2.2.2.2.1 ≤ 20) (k : Nat) (hk : k < 6) (ao : Nat) (fo : Nat → Int64) : CH l G (TY3 cyI cyO cyJ) yL_size wsL_size rh_L_size [.ref (h), .int (nI (k)), .ref (ao)] [[(h, .inr (5, [.ref (Ad 0), .ref (At 0), .ref (As 0), .ref (Ac 0), .ref (L 6 0)]))], dyW cyI Ad D, [(ao, .inl (cyJ, 1, .inr (.inl (fo))))]] ((0 : Int32)) [[(h, .inr (5, [.ref (Ad 0), .ref (At 0), .ref (As 0), .ref (Ac 0), .ref (L 6 0)]))], dyW cyI Ad D, [(ao, .inl (cyJ, 1, .inr (.inl (vp_updL fo 0 ((nI (rSz D.2.1 D.2.2.2.2.2.1 (nI k))).toInt64)))))]] := by
  refine wk_H (cc := cL_size) (maxL := 4) (ret := (some .int)) (hh := [(0, 9, 12, 20)]) (by decide) rfl (Nat.le_of_ble_eq_true rfl) ?_
  intro p9 e9 s9 m9 b9 t9 c9 A9 ls hx hb hr hts hown hlocks hml hK hA hD hP hl hS hX htab
  have hK2 := hK.sub [0, 1] (tys' := TY cyI cyO) rfl
  have hl : lv_has ls 4 [(0, .ref (h)), (1, .int (nI (k))), (2, .ref (ao))] := hl
  refine lv_aload_n hx hb dL_size_0 rfl (lv_at hl 2 rfl) ?_
  refine lv_iconst (v := (0 : Int32)) hx hb dL_size_1 (by decide) ?_
  refine lv_aload_n hx hb dL_size_2 rfl (lv_at hl 0 rfl) ?_
  refine lv_iload_n hx hb dL_size_3 rfl (lv_at hl 1 rfl) ?_
  refine gVi (gs := [[(h, .inr (5, [.ref (Ad 0), .ref (At 0), .ref (As 0), .ref (Ac 0), .ref (L 6 0)]))], dyW cyI Ad D, [(ao, .inl (cyJ, 1, .inr (.inl (fo))))]]) (As := [.int (nI (k))]) (rest := [.int ((0 : Int32)), .ref (ao)]) ⟨hx, hb, hml, hown, hts⟩ (c_X5_size l G cyI cyO h Ad At As Ac L D hn k hk) (cwV 1 hts gL_size_X5_size rfl rfl rfl (by decide +kernel) ⟨Nat.le_of_ble_eq_true rfl, Nat.le_of_ble_eq_true rfl⟩) hK2 hP hD hS hA [0, 1] rfl rfl rfl 0 5 rfl rfl rfl hl.1 rfl (Nat.le_of_ble_eq_true rfl) dL_size_4 ⟨Nat.zero_le _, Nat.zero_le _⟩ (fun H locs hP hD hS => ?_)
  have hP : va_P G vwCl (cat [[(h, .inr (5, [.ref (Ad 0), .ref (At 0), .ref (As 0), .ref (Ac 0), .ref (L 6 0)]))], dyW cyI Ad D, [(ao, .inl (cyJ, 1, .inr (.inl (fo))))]]) H := hP
  have hD : va_D A9 (cat [[(h, .inr (5, [.ref (Ad 0), .ref (At 0), .ref (As 0), .ref (Ac 0), .ref (L 6 0)]))], dyW cyI Ad D, [(ao, .inl (cyJ, 1, .inr (.inl (fo))))]]) := hD
  refine lv_i2l (v := (nI (rSz D.2.1 D.2.2.2.2.2.1 (nI k))).toInt64) hx hb dL_size_7 rfl ?_
  refine va_last (f := fo) hx hb hK hP hD hS 12 2 rfl rfl in01 dL_size_8 (fun H locs hP hD hS => ?_)
  have hP : va_P G vwCl (cat [[(h, .inr (5, [.ref (Ad 0), .ref (At 0), .ref (As 0), .ref (Ac 0), .ref (L 6 0)]))], dyW cyI Ad D, [(ao, .inl (cyJ, 1, .inr (.inl (vp_updL fo 0 ((nI (rSz D.2.1 D.2.2.2.2.2.1 (nI k))).toInt64)))))]]) H := hP
  have hD : va_D A9 (cat [[(h, .inr (5, [.ref (Ad 0), .ref (At 0), .ref (As 0), .ref (Ac 0), .ref (L 6 0)]))], dyW cyI Ad D, [(ao, .inl (cyJ, 1, .inr (.inl (vp_updL fo 0 ((nI (rSz D.2.1 D.2.2.2.2.2.1 (nI k))).toInt64)))))]]) := hD
  refine lv_goto (tgt := 15) hx hb dL_size_9 (by decide) ?_
  refine lv_iconst (v := (0 : Int32)) hx hb dL_size_15 (by decide) ?_
  refine W.widen (k := 1) (n := 6) (by decide) (by decide) ?_
  have hP : va_P G vwCl (cat [[(h, .inr (5, [.ref (Ad 0), .ref (At 0), .ref (As 0), .ref (Ac 0), .ref (L 6 0)]))], dyW cyI Ad D, [(ao, .inl (cyJ, 1, .inr (.inl (vp_updL fo 0 ((nI (rSz D.2.1 D.2.2.2.2.2.1 (nI k))).toInt64)))))]]) H := hP
  have hD : va_D A9 (cat [[(h, .inr (5, [.ref (Ad 0), .ref (At 0), .ref (As 0), .ref (Ac 0), .ref (L 6 0)]))], dyW cyI Ad D, [(ao, .inl (cyJ, 1, .inr (.inl (vp_updL fo 0 ((nI (rSz D.2.1 D.2.2.2.2.2.1 (nI k))).toInt64)))))]]) := hD
  exact end_i hx hb hr hlocks hK hP hD hS (rfl) dL_size_16
set_option maxHeartbeats 4000000 in
set_option maxRecDepth 100000 in
theorem t_L_size_IO (l : Launch) (G : va_G) (cyI cyO cyJ : ClassId) (h : Nat) (Ad At As Ac : Nat → Nat) (L : Nat → Nat → Nat) (D : DS) (x : Int32) (hx9 : isDig x 0 5 = false) (ao : Nat) (fo : Nat → Int64) (htr : l.stackTraces = false) : CH l G (TY3 cyI cyO cyJ) yL_size wsL_size rh_L_size [.ref (h), .int (x), .ref (ao)] [[(h, .inr (5, [.ref (Ad 0), .ref (At 0), .ref (As 0), .ref (Ac 0), .ref (L 6 0)]))], dyW cyI Ad D, [(ao, .inl (cyJ, 1, .inr (.inl (fo))))]] ((1 : Int32)) [[(h, .inr (5, [.ref (Ad 0), .ref (At 0), .ref (As 0), .ref (Ac 0), .ref (L 6 0)]))], dyW cyI Ad D, [(ao, .inl (cyJ, 1, .inr (.inl (fo))))]] := by
  refine wk_H (cc := cL_size) (maxL := 4) (ret := (some .int)) (hh := [(0, 9, 12, 20)]) (by decide) rfl (Nat.le_of_ble_eq_true rfl) ?_
  intro p9 e9 s9 m9 b9 t9 c9 A9 ls hx hb hr hts hown hlocks hml hK hA hD hP hl hS hX htab
  have hK2 := hK.sub [0, 1] (tys' := TY cyI cyO) rfl
  have hl : lv_has ls 4 [(0, .ref (h)), (1, .int (x)), (2, .ref (ao))] := hl
  refine lv_aload_n hx hb dL_size_0 rfl (lv_at hl 2 rfl) ?_
  refine lv_iconst (v := (0 : Int32)) hx hb dL_size_1 (by decide) ?_
  refine lv_aload_n hx hb dL_size_2 rfl (lv_at hl 0 rfl) ?_
  refine lv_iload_n hx hb dL_size_3 rfl (lv_at hl 1 rfl) ?_
  refine gXV (gs := [[(h, .inr (5, [.ref (Ad 0), .ref (At 0), .ref (As 0), .ref (Ac 0), .ref (L 6 0)]))], dyW cyI Ad D, [(ao, .inl (cyJ, 1, .inr (.inl (fo))))]]) (As := [.int (x)]) (rest := [.int ((0 : Int32)), .ref (ao)]) ⟨hx, hb, hml, hown, hts⟩ (x_X5_size_IO l G cyI cyO h Ad At As Ac L D x hx9 htr) (cwV 1 hts gL_size_X5_size rfl rfl rfl (by decide +kernel) ⟨Nat.le_of_ble_eq_true rfl, Nat.le_of_ble_eq_true rfl⟩) hK2 hX hP hD hS hA [0, 1] rfl rfl 0 5 rfl rfl rfl hl.1 rfl (Nat.le_of_ble_eq_true rfl) dL_size_4 ⟨Nat.le_refl _, Nat.le_refl _⟩ (fun ce9 q9 H locs hP hD hS hce hcv hcl => ?_)
  refine vx_catch (E := xIO) (name := xIO) hown [] ⟨0, 9, 12, 20⟩ [] htab (fun _ h9 => nomatch h9) (by decide) (by decide) (hts (.classLink RL 20 xIO) (by decide +kernel)) (va_Nw.use rfl (hX.2.2.2.1 xIO (by decide))) hce hcv hcl ?_
  refine W.eq (g2 := F0 m9 12 ls [.ref q9]) rfl ?_
  refine lv_astore_n (lv' := [(3, .ref (q9)), (0, .ref (h)), (1, .int (x)), (2, .ref (ao))]) hx hb dL_size_12 rfl hl (by decide) rfl (fun ls hl => ?_)
  refine lv_iconst (v := (1 : Int32)) hx hb dL_size_13 (by decide) ?_
  refine W.widen (k := 1) (n := 6) (by decide) (by decide) ?_
  have hP : va_P G vwCl (cat [[(h, .inr (5, [.ref (Ad 0), .ref (At 0), .ref (As 0), .ref (Ac 0), .ref (L 6 0)]))], dyW cyI Ad D, [(ao, .inl (cyJ, 1, .inr (.inl (fo))))]]) H := hP
  have hD : va_D A9 (cat [[(h, .inr (5, [.ref (Ad 0), .ref (At 0), .ref (As 0), .ref (Ac 0), .ref (L 6 0)]))], dyW cyI Ad D, [(ao, .inl (cyJ, 1, .inr (.inl (fo))))]]) := hD
  exact end_i hx hb hr hlocks hK hP hD hS (rfl) dL_size_14
abbrev rh_L_load : Room := { frames := 8, cells := 1, slots := 6, locals := 123 }
set_option maxHeartbeats 4000000 in
set_option maxRecDepth 100000 in
theorem n_L_load (l : Launch) (G : va_G) (cyI cyO cyJ : ClassId) (h : Nat) (Ad At As Ac : Nat → Nat) (L : Nat → Nat → Nat) (D : DS) (hn : D.2.2.2.2.2.1 ≤ 20) (k : Nat) (hk : k < 6) (ao : Nat) (fo : Nat → Int64) : CH l G (TY3 cyI cyO cyJ) yL_load wsL_load rh_L_load [.ref (h), .int (nI (k)), .ref (ao)] [[(h, .inr (5, [.ref (Ad 0), .ref (At 0), .ref (As 0), .ref (Ac 0), .ref (L 6 0)]))], dyW cyI Ad D, [(ao, .inl (cyJ, 1, .inr (.inl (fo))))]] ((0 : Int32)) [[(h, .inr (5, [.ref (Ad 0), .ref (At 0), .ref (As 0), .ref (Ac 0), .ref (L 6 0)]))], dyW cyI Ad D, [(ao, .inl (cyJ, 1, .inr (.inl (vp_updL fo 0 ((rLd D.1 D.2.1 D.2.2.2.2.2.1 (nI k)).toInt64)))))]] := by
  refine wk_H (cc := cL_load) (maxL := 4) (ret := (some .int)) (hh := [(0, 9, 12, 20)]) (by decide) rfl (Nat.le_of_ble_eq_true rfl) ?_
  intro p9 e9 s9 m9 b9 t9 c9 A9 ls hx hb hr hts hown hlocks hml hK hA hD hP hl hS hX htab
  have hK2 := hK.sub [0, 1] (tys' := TY cyI cyO) rfl
  have hl : lv_has ls 4 [(0, .ref (h)), (1, .int (nI (k))), (2, .ref (ao))] := hl
  refine lv_aload_n hx hb dL_load_0 rfl (lv_at hl 2 rfl) ?_
  refine lv_iconst (v := (0 : Int32)) hx hb dL_load_1 (by decide) ?_
  refine lv_aload_n hx hb dL_load_2 rfl (lv_at hl 0 rfl) ?_
  refine lv_iload_n hx hb dL_load_3 rfl (lv_at hl 1 rfl) ?_
  refine gVi (gs := [[(h, .inr (5, [.ref (Ad 0), .ref (At 0), .ref (As 0), .ref (Ac 0), .ref (L 6 0)]))], dyW cyI Ad D, [(ao, .inl (cyJ, 1, .inr (.inl (fo))))]]) (As := [.int (nI (k))]) (rest := [.int ((0 : Int32)), .ref (ao)]) ⟨hx, hb, hml, hown, hts⟩ (c_X5_load l G cyI cyO h Ad At As Ac L D hn k hk) (cwV 1 hts gL_load_X5_load rfl rfl rfl (by decide +kernel) ⟨Nat.le_of_ble_eq_true rfl, Nat.le_of_ble_eq_true rfl⟩) hK2 hP hD hS hA [0, 1] rfl rfl rfl 0 5 rfl rfl rfl hl.1 rfl (Nat.le_of_ble_eq_true rfl) dL_load_4 ⟨Nat.zero_le _, Nat.zero_le _⟩ (fun H locs hP hD hS => ?_)
  have hP : va_P G vwCl (cat [[(h, .inr (5, [.ref (Ad 0), .ref (At 0), .ref (As 0), .ref (Ac 0), .ref (L 6 0)]))], dyW cyI Ad D, [(ao, .inl (cyJ, 1, .inr (.inl (fo))))]]) H := hP
  have hD : va_D A9 (cat [[(h, .inr (5, [.ref (Ad 0), .ref (At 0), .ref (As 0), .ref (Ac 0), .ref (L 6 0)]))], dyW cyI Ad D, [(ao, .inl (cyJ, 1, .inr (.inl (fo))))]]) := hD
  refine lv_i2l (v := (rLd D.1 D.2.1 D.2.2.2.2.2.1 (nI k)).toInt64) hx hb dL_load_7 rfl ?_
  refine va_last (f := fo) hx hb hK hP hD hS 12 2 rfl rfl in01 dL_load_8 (fun H locs hP hD hS => ?_)
  have hP : va_P G vwCl (cat [[(h, .inr (5, [.ref (Ad 0), .ref (At 0), .ref (As 0), .ref (Ac 0), .ref (L 6 0)]))], dyW cyI Ad D, [(ao, .inl (cyJ, 1, .inr (.inl (vp_updL fo 0 ((rLd D.1 D.2.1 D.2.2.2.2.2.1 (nI k)).toInt64)))))]]) H := hP
  have hD : va_D A9 (cat [[(h, .inr (5, [.ref (Ad 0), .ref (At 0), .ref (As 0), .ref (Ac 0), .ref (L 6 0)]))], dyW cyI Ad D, [(ao, .inl (cyJ, 1, .inr (.inl (vp_updL fo 0 ((rLd D.1 D.2.1 D.2.2.2.2.2.1 (nI k)).toInt64)))))]]) := hD
  refine lv_goto (tgt := 15) hx hb dL_load_9 (by decide) ?_
  refine lv_iconst (v := (0 : Int32)) hx hb dL_load_15 (by decide) ?_
  refine W.widen (k := 1) (n := 6) (by decide) (by decide) ?_
  have hP : va_P G vwCl (cat [[(h, .inr (5, [.ref (Ad 0), .ref (At 0), .ref (As 0), .ref (Ac 0), .ref (L 6 0)]))], dyW cyI Ad D, [(ao, .inl (cyJ, 1, .inr (.inl (vp_updL fo 0 ((rLd D.1 D.2.1 D.2.2.2.2.2.1 (nI k)).toInt64)))))]]) H := hP
  have hD : va_D A9 (cat [[(h, .inr (5, [.ref (Ad 0), .ref (At 0), .ref (As 0), .ref (Ac 0), .ref (L 6 0)]))], dyW cyI Ad D, [(ao, .inl (cyJ, 1, .inr (.inl (vp_updL fo 0 ((rLd D.1 D.2.1 D.2.2.2.2.2.1 (nI k)).toInt64)))))]]) := hD
  exact end_i hx hb hr hlocks hK hP hD hS (rfl) dL_load_16
set_option maxHeartbeats 4000000 in
set_option maxRecDepth 100000 in
theorem t_L_load_IO (l : Launch) (G : va_G) (cyI cyO cyJ : ClassId) (h : Nat) (Ad At As Ac : Nat → Nat) (L : Nat → Nat → Nat) (D : DS) (x : Int32) (hx9 : isDig x 0 5 = false) (ao : Nat) (fo : Nat → Int64) (htr : l.stackTraces = false) : CH l G (TY3 cyI cyO cyJ) yL_load wsL_load rh_L_load [.ref (h), .int (x), .ref (ao)] [[(h, .inr (5, [.ref (Ad 0), .ref (At 0), .ref (As 0), .ref (Ac 0), .ref (L 6 0)]))], dyW cyI Ad D, [(ao, .inl (cyJ, 1, .inr (.inl (fo))))]] ((1 : Int32)) [[(h, .inr (5, [.ref (Ad 0), .ref (At 0), .ref (As 0), .ref (Ac 0), .ref (L 6 0)]))], dyW cyI Ad D, [(ao, .inl (cyJ, 1, .inr (.inl (fo))))]] := by
  refine wk_H (cc := cL_load) (maxL := 4) (ret := (some .int)) (hh := [(0, 9, 12, 20)]) (by decide) rfl (Nat.le_of_ble_eq_true rfl) ?_
  intro p9 e9 s9 m9 b9 t9 c9 A9 ls hx hb hr hts hown hlocks hml hK hA hD hP hl hS hX htab
  have hK2 := hK.sub [0, 1] (tys' := TY cyI cyO) rfl
  have hl : lv_has ls 4 [(0, .ref (h)), (1, .int (x)), (2, .ref (ao))] := hl
  refine lv_aload_n hx hb dL_load_0 rfl (lv_at hl 2 rfl) ?_
  refine lv_iconst (v := (0 : Int32)) hx hb dL_load_1 (by decide) ?_
  refine lv_aload_n hx hb dL_load_2 rfl (lv_at hl 0 rfl) ?_
  refine lv_iload_n hx hb dL_load_3 rfl (lv_at hl 1 rfl) ?_
  refine gXV (gs := [[(h, .inr (5, [.ref (Ad 0), .ref (At 0), .ref (As 0), .ref (Ac 0), .ref (L 6 0)]))], dyW cyI Ad D, [(ao, .inl (cyJ, 1, .inr (.inl (fo))))]]) (As := [.int (x)]) (rest := [.int ((0 : Int32)), .ref (ao)]) ⟨hx, hb, hml, hown, hts⟩ (x_X5_load_IO l G cyI cyO h Ad At As Ac L D x hx9 htr) (cwV 1 hts gL_load_X5_load rfl rfl rfl (by decide +kernel) ⟨Nat.le_of_ble_eq_true rfl, Nat.le_of_ble_eq_true rfl⟩) hK2 hX hP hD hS hA [0, 1] rfl rfl 0 5 rfl rfl rfl hl.1 rfl (Nat.le_of_ble_eq_true rfl) dL_load_4 ⟨Nat.le_refl _, Nat.le_refl _⟩ (fun ce9 q9 H locs hP hD hS hce hcv hcl => ?_)
  refine vx_catch (E := xIO) (name := xIO) hown [] ⟨0, 9, 12, 20⟩ [] htab (fun _ h9 => nomatch h9) (by decide) (by decide) (hts (.classLink RL 20 xIO) (by decide +kernel)) (va_Nw.use rfl (hX.2.2.2.1 xIO (by decide))) hce hcv hcl ?_
  refine W.eq (g2 := F0 m9 12 ls [.ref q9]) rfl ?_
  refine lv_astore_n (lv' := [(3, .ref (q9)), (0, .ref (h)), (1, .int (x)), (2, .ref (ao))]) hx hb dL_load_12 rfl hl (by decide) rfl (fun ls hl => ?_)
  refine lv_iconst (v := (1 : Int32)) hx hb dL_load_13 (by decide) ?_
  refine W.widen (k := 1) (n := 6) (by decide) (by decide) ?_
  have hP : va_P G vwCl (cat [[(h, .inr (5, [.ref (Ad 0), .ref (At 0), .ref (As 0), .ref (Ac 0), .ref (L 6 0)]))], dyW cyI Ad D, [(ao, .inl (cyJ, 1, .inr (.inl (fo))))]]) H := hP
  have hD : va_D A9 (cat [[(h, .inr (5, [.ref (Ad 0), .ref (At 0), .ref (As 0), .ref (Ac 0), .ref (L 6 0)]))], dyW cyI Ad D, [(ao, .inl (cyJ, 1, .inr (.inl (fo))))]]) := hD
  exact end_i hx hb hr hlocks hK hP hD hS (rfl) dL_load_14
abbrev rh_L_plan : Room := { frames := 7, cells := 1, slots := 6, locals := 133 }
set_option maxHeartbeats 4000000 in
set_option maxRecDepth 100000 in
theorem n_L_plan (l : Launch) (G : va_G) (cyI cyO cyJ : ClassId) (h : Nat) (Ad At As Ac : Nat → Nat) (L : Nat → Nat → Nat) (S : SS) (D : DS) (V : HS) (hn : D.2.2.2.2.2.1 ≤ 20) (hV : V.1 ≤ 6) (hm : (!dHO D && decide (0 < cW D.2.2.1)) = true) (ao : Nat) (fo : Nat → Int64) : CH l G (TY3 cyI cyO cyJ) yL_plan wsL_plan rh_L_plan [.ref (h), .ref (ao)] [[(h, .inr (5, [.ref (Ad 0), .ref (At 0), .ref (As 0), .ref (Ac 0), .ref (L 6 0)]))], shW cyI As S, dyW cyI Ad D, hiW cyI cyO L V, [(ao, .inl (cyJ, 1, .inr (.inl (fo))))]] ((0 : Int32)) [[(h, .inr (5, [.ref (Ad 0), .ref (At 0), .ref (As 0), .ref (Ac 0), .ref (L 6 0)]))], shW cyI As (shOut S D), dyW cyI Ad (mpD S D), hiW cyI cyO (svM L V) (svS V D), [(ao, .inl (cyJ, 1, .inr (.inl (vp_updL fo 0 ((shRes S D).toInt64)))))]] := by
  refine wk_H (cc := cL_plan) (maxL := 3) (ret := (some .int)) (hh := [(0, 8, 11, 15)]) (by decide) rfl (Nat.le_of_ble_eq_true rfl) ?_
  intro p9 e9 s9 m9 b9 t9 c9 A9 ls hx hb hr hts hown hlocks hml hK hA hD hP hl hS hX htab
  have hK2 := hK.sub [0, 1] (tys' := TY cyI cyO) rfl
  have hl : lv_has ls 3 [(0, .ref (h)), (1, .ref (ao))] := hl
  refine lv_aload_n hx hb dL_plan_0 rfl (lv_at hl 1 rfl) ?_
  refine lv_iconst (v := (0 : Int32)) hx hb dL_plan_1 (by decide) ?_
  refine lv_aload_n hx hb dL_plan_2 rfl (lv_at hl 0 rfl) ?_
  refine gVi (gs := [[(h, .inr (5, [.ref (Ad 0), .ref (At 0), .ref (As 0), .ref (Ac 0), .ref (L 6 0)]))], shW cyI As S, dyW cyI Ad D, hiW cyI cyO L V, [(ao, .inl (cyJ, 1, .inr (.inl (fo))))]]) (As := []) (rest := [.int ((0 : Int32)), .ref (ao)]) ⟨hx, hb, hml, hown, hts⟩ (c_X5_plan l G cyI cyO h Ad At As Ac L S D V hn hV hm) (cwV 0 hts gL_plan_X5_plan rfl rfl rfl (by decide +kernel) ⟨Nat.le_of_ble_eq_true rfl, Nat.le_of_ble_eq_true rfl⟩) hK2 hP hD hS hA [0, 1, 2, 3] rfl rfl rfl 0 5 rfl rfl rfl hl.1 rfl (Nat.le_of_ble_eq_true rfl) dL_plan_3 ⟨Nat.zero_le _, Nat.zero_le _⟩ (fun H locs hP hD hS => ?_)
  have hP : va_P G vwCl (cat [[(h, .inr (5, [.ref (Ad 0), .ref (At 0), .ref (As 0), .ref (Ac 0), .ref (L 6 0)]))], shW cyI As (shOut S D), dyW cyI Ad (mpD S D), hiW cyI cyO (svM L V) (svS V D), [(ao, .inl (cyJ, 1, .inr (.inl (fo))))]]) H := hP
  have hD : va_D A9 (cat [[(h, .inr (5, [.ref (Ad 0), .ref (At 0), .ref (As 0), .ref (Ac 0), .ref (L 6 0)]))], shW cyI As (shOut S D), dyW cyI Ad (mpD S D), hiW cyI cyO (svM L V) (svS V D), [(ao, .inl (cyJ, 1, .inr (.inl (fo))))]]) := hD
  refine lv_i2l (v := (shRes S D).toInt64) hx hb dL_plan_6 rfl ?_
  refine va_last (f := fo) hx hb hK hP hD hS 93 2 rfl rfl in01 dL_plan_7 (fun H locs hP hD hS => ?_)
  have hP : va_P G vwCl (cat [[(h, .inr (5, [.ref (Ad 0), .ref (At 0), .ref (As 0), .ref (Ac 0), .ref (L 6 0)]))], shW cyI As (shOut S D), dyW cyI Ad (mpD S D), hiW cyI cyO (svM L V) (svS V D), [(ao, .inl (cyJ, 1, .inr (.inl (vp_updL fo 0 ((shRes S D).toInt64)))))]]) H := hP
  have hD : va_D A9 (cat [[(h, .inr (5, [.ref (Ad 0), .ref (At 0), .ref (As 0), .ref (Ac 0), .ref (L 6 0)]))], shW cyI As (shOut S D), dyW cyI Ad (mpD S D), hiW cyI cyO (svM L V) (svS V D), [(ao, .inl (cyJ, 1, .inr (.inl (vp_updL fo 0 ((shRes S D).toInt64)))))]]) := hD
  refine lv_goto (tgt := 14) hx hb dL_plan_8 (by decide) ?_
  refine lv_iconst (v := (0 : Int32)) hx hb dL_plan_14 (by decide) ?_
  refine W.widen (k := 1) (n := 6) (by decide) (by decide) ?_
  have hP : va_P G vwCl (cat [[(h, .inr (5, [.ref (Ad 0), .ref (At 0), .ref (As 0), .ref (Ac 0), .ref (L 6 0)]))], shW cyI As (shOut S D), dyW cyI Ad (mpD S D), hiW cyI cyO (svM L V) (svS V D), [(ao, .inl (cyJ, 1, .inr (.inl (vp_updL fo 0 ((shRes S D).toInt64)))))]]) H := hP
  have hD : va_D A9 (cat [[(h, .inr (5, [.ref (Ad 0), .ref (At 0), .ref (As 0), .ref (Ac 0), .ref (L 6 0)]))], shW cyI As (shOut S D), dyW cyI Ad (mpD S D), hiW cyI cyO (svM L V) (svS V D), [(ao, .inl (cyJ, 1, .inr (.inl (vp_updL fo 0 ((shRes S D).toInt64)))))]]) := hD
  exact end_i hx hb hr hlocks hK hP hD hS (rfl) dL_plan_15
set_option maxHeartbeats 4000000 in
set_option maxRecDepth 100000 in
theorem t_L_plan_IS (l : Launch) (G : va_G) (cyI cyO cyJ : ClassId) (h : Nat) (Ad At As Ac : Nat → Nat) (L : Nat → Nat → Nat) (D : DS) (hm : (!dHO D && decide (0 < cW D.2.2.1)) = false) (S : SS) (V : HS) (ao : Nat) (fo : Nat → Int64) (htr : l.stackTraces = false) : CH l G (TY3 cyI cyO cyJ) yL_plan wsL_plan rh_L_plan [.ref (h), .ref (ao)] [[(h, .inr (5, [.ref (Ad 0), .ref (At 0), .ref (As 0), .ref (Ac 0), .ref (L 6 0)]))], shW cyI As S, dyW cyI Ad D, hiW cyI cyO L V, [(ao, .inl (cyJ, 1, .inr (.inl (fo))))]] ((1 : Int32)) [[(h, .inr (5, [.ref (Ad 0), .ref (At 0), .ref (As 0), .ref (Ac 0), .ref (L 6 0)]))], shW cyI As S, dyW cyI Ad D, hiW cyI cyO L V, [(ao, .inl (cyJ, 1, .inr (.inl (fo))))]] := by
  refine wk_H (cc := cL_plan) (maxL := 3) (ret := (some .int)) (hh := [(0, 8, 11, 15)]) (by decide) rfl (Nat.le_of_ble_eq_true rfl) ?_
  intro p9 e9 s9 m9 b9 t9 c9 A9 ls hx hb hr hts hown hlocks hml hK hA hD hP hl hS hX htab
  have hK2 := hK.sub [0, 1] (tys' := TY cyI cyO) rfl
  have hl : lv_has ls 3 [(0, .ref (h)), (1, .ref (ao))] := hl
  refine lv_aload_n hx hb dL_plan_0 rfl (lv_at hl 1 rfl) ?_
  refine lv_iconst (v := (0 : Int32)) hx hb dL_plan_1 (by decide) ?_
  refine lv_aload_n hx hb dL_plan_2 rfl (lv_at hl 0 rfl) ?_
  refine gXV (gs := [[(h, .inr (5, [.ref (Ad 0), .ref (At 0), .ref (As 0), .ref (Ac 0), .ref (L 6 0)]))], shW cyI As S, dyW cyI Ad D, hiW cyI cyO L V, [(ao, .inl (cyJ, 1, .inr (.inl (fo))))]]) (As := []) (rest := [.int ((0 : Int32)), .ref (ao)]) ⟨hx, hb, hml, hown, hts⟩ (x_X5_plan_IS l G cyI cyO h Ad At As Ac L D hm htr) (cwV 0 hts gL_plan_X5_plan rfl rfl rfl (by decide +kernel) ⟨Nat.le_of_ble_eq_true rfl, Nat.le_of_ble_eq_true rfl⟩) hK2 hX hP hD hS hA [0, 2] rfl rfl 0 5 rfl rfl rfl hl.1 rfl (Nat.le_of_ble_eq_true rfl) dL_plan_3 ⟨Nat.le_refl _, Nat.le_refl _⟩ (fun ce9 q9 H locs hP hD hS hce hcv hcl => ?_)
  refine vx_catch (E := xIS) (name := xIS) hown [] ⟨0, 8, 11, 15⟩ [] htab (fun _ h9 => nomatch h9) (by decide) (by decide) (hts (.classLink RL 15 xIS) (by decide +kernel)) (va_Nw.use rfl (hX.2.2.2.1 xIS (by decide))) hce hcv hcl ?_
  refine W.eq (g2 := F0 m9 11 ls [.ref q9]) rfl ?_
  refine lv_astore_n (lv' := [(2, .ref (q9)), (0, .ref (h)), (1, .ref (ao))]) hx hb dL_plan_11 rfl hl (by decide) rfl (fun ls hl => ?_)
  refine lv_iconst (v := (1 : Int32)) hx hb dL_plan_12 (by decide) ?_
  refine W.widen (k := 1) (n := 6) (by decide) (by decide) ?_
  have hP : va_P G vwCl (cat [[(h, .inr (5, [.ref (Ad 0), .ref (At 0), .ref (As 0), .ref (Ac 0), .ref (L 6 0)]))], shW cyI As S, dyW cyI Ad D, hiW cyI cyO L V, [(ao, .inl (cyJ, 1, .inr (.inl (fo))))]]) H := hP
  have hD : va_D A9 (cat [[(h, .inr (5, [.ref (Ad 0), .ref (At 0), .ref (As 0), .ref (Ac 0), .ref (L 6 0)]))], shW cyI As S, dyW cyI Ad D, hiW cyI cyO L V, [(ao, .inl (cyJ, 1, .inr (.inl (fo))))]]) := hD
  exact end_i hx hb hr hlocks hK hP hD hS (rfl) dL_plan_13
abbrev rh_L_handOver : Room := { frames := 7, cells := 1, slots := 6, locals := 106 }
set_option maxHeartbeats 4000000 in
set_option maxRecDepth 100000 in
theorem n_L_handOver (l : Launch) (G : va_G) (cyI cyO cyJ : ClassId) (h : Nat) (Ad At As Ac : Nat → Nat) (L : Nat → Nat → Nat) (D : DS) (V : HS) (hn : D.2.2.2.2.2.1 ≤ 20) (hV : V.1 ≤ 6) (hm : dHO D = true) (ao : Nat) (fo : Nat → Int64) : CH l G (TY3 cyI cyO cyJ) yL_handOver wsL_handOver rh_L_handOver [.ref (h), .ref (ao)] [[(h, .inr (5, [.ref (Ad 0), .ref (At 0), .ref (As 0), .ref (Ac 0), .ref (L 6 0)]))], dyW cyI Ad D, hiW cyI cyO L V, [(ao, .inl (cyJ, 1, .inr (.inl (fo))))]] ((0 : Int32)) [[(h, .inr (5, [.ref (Ad 0), .ref (At 0), .ref (As 0), .ref (Ac 0), .ref (L 6 0)]))], dyW cyI Ad (dNext D), hiW cyI cyO (svM L V) (svS V D), [(ao, .inl (cyJ, 1, .inr (.inl (vp_updL fo 0 ((nI (dNextR D)).toInt64)))))]] := by
  refine wk_H (cc := cL_handOver) (maxL := 3) (ret := (some .int)) (hh := [(0, 8, 11, 15)]) (by decide) rfl (Nat.le_of_ble_eq_true rfl) ?_
  intro p9 e9 s9 m9 b9 t9 c9 A9 ls hx hb hr hts hown hlocks hml hK hA hD hP hl hS hX htab
  have hK2 := hK.sub [0, 1] (tys' := TY cyI cyO) rfl
  have hl : lv_has ls 3 [(0, .ref (h)), (1, .ref (ao))] := hl
  refine lv_aload_n hx hb dL_handOver_0 rfl (lv_at hl 1 rfl) ?_
  refine lv_iconst (v := (0 : Int32)) hx hb dL_handOver_1 (by decide) ?_
  refine lv_aload_n hx hb dL_handOver_2 rfl (lv_at hl 0 rfl) ?_
  refine gVi (gs := [[(h, .inr (5, [.ref (Ad 0), .ref (At 0), .ref (As 0), .ref (Ac 0), .ref (L 6 0)]))], dyW cyI Ad D, hiW cyI cyO L V, [(ao, .inl (cyJ, 1, .inr (.inl (fo))))]]) (As := []) (rest := [.int ((0 : Int32)), .ref (ao)]) ⟨hx, hb, hml, hown, hts⟩ (c_X5_handOver l G cyI cyO h Ad At As Ac L D V hn hV hm) (cwV 0 hts gL_handOver_X5_handOver rfl rfl rfl (by decide +kernel) ⟨Nat.le_of_ble_eq_true rfl, Nat.le_of_ble_eq_true rfl⟩) hK2 hP hD hS hA [0, 1, 2] rfl rfl rfl 0 5 rfl rfl rfl hl.1 rfl (Nat.le_of_ble_eq_true rfl) dL_handOver_3 ⟨Nat.zero_le _, Nat.zero_le _⟩ (fun H locs hP hD hS => ?_)
  have hP : va_P G vwCl (cat [[(h, .inr (5, [.ref (Ad 0), .ref (At 0), .ref (As 0), .ref (Ac 0), .ref (L 6 0)]))], dyW cyI Ad (dNext D), hiW cyI cyO (svM L V) (svS V D), [(ao, .inl (cyJ, 1, .inr (.inl (fo))))]]) H := hP
  have hD : va_D A9 (cat [[(h, .inr (5, [.ref (Ad 0), .ref (At 0), .ref (As 0), .ref (Ac 0), .ref (L 6 0)]))], dyW cyI Ad (dNext D), hiW cyI cyO (svM L V) (svS V D), [(ao, .inl (cyJ, 1, .inr (.inl (fo))))]]) := hD
  refine lv_i2l (v := (nI (dNextR D)).toInt64) hx hb dL_handOver_6 rfl ?_
  refine va_last (f := fo) hx hb hK hP hD hS 80 2 rfl rfl in01 dL_handOver_7 (fun H locs hP hD hS => ?_)
  have hP : va_P G vwCl (cat [[(h, .inr (5, [.ref (Ad 0), .ref (At 0), .ref (As 0), .ref (Ac 0), .ref (L 6 0)]))], dyW cyI Ad (dNext D), hiW cyI cyO (svM L V) (svS V D), [(ao, .inl (cyJ, 1, .inr (.inl (vp_updL fo 0 ((nI (dNextR D)).toInt64)))))]]) H := hP
  have hD : va_D A9 (cat [[(h, .inr (5, [.ref (Ad 0), .ref (At 0), .ref (As 0), .ref (Ac 0), .ref (L 6 0)]))], dyW cyI Ad (dNext D), hiW cyI cyO (svM L V) (svS V D), [(ao, .inl (cyJ, 1, .inr (.inl (vp_updL fo 0 ((nI (dNextR D)).toInt64)))))]]) := hD
  refine lv_goto (tgt := 14) hx hb dL_handOver_8 (by decide) ?_
  refine lv_iconst (v := (0 : Int32)) hx hb dL_handOver_14 (by decide) ?_
  refine W.widen (k := 1) (n := 6) (by decide) (by decide) ?_
  have hP : va_P G vwCl (cat [[(h, .inr (5, [.ref (Ad 0), .ref (At 0), .ref (As 0), .ref (Ac 0), .ref (L 6 0)]))], dyW cyI Ad (dNext D), hiW cyI cyO (svM L V) (svS V D), [(ao, .inl (cyJ, 1, .inr (.inl (vp_updL fo 0 ((nI (dNextR D)).toInt64)))))]]) H := hP
  have hD : va_D A9 (cat [[(h, .inr (5, [.ref (Ad 0), .ref (At 0), .ref (As 0), .ref (Ac 0), .ref (L 6 0)]))], dyW cyI Ad (dNext D), hiW cyI cyO (svM L V) (svS V D), [(ao, .inl (cyJ, 1, .inr (.inl (vp_updL fo 0 ((nI (dNextR D)).toInt64)))))]]) := hD
  exact end_i hx hb hr hlocks hK hP hD hS (rfl) dL_handOver_15
set_option maxHeartbeats 4000000 in
set_option maxRecDepth 100000 in
theorem t_L_handOver_IS (l : Launch) (G : va_G) (cyI cyO cyJ : ClassId) (h : Nat) (Ad At As Ac : Nat → Nat) (L : Nat → Nat → Nat) (D : DS) (hm : dHO D = false) (V : HS) (ao : Nat) (fo : Nat → Int64) (htr : l.stackTraces = false) : CH l G (TY3 cyI cyO cyJ) yL_handOver wsL_handOver rh_L_handOver [.ref (h), .ref (ao)] [[(h, .inr (5, [.ref (Ad 0), .ref (At 0), .ref (As 0), .ref (Ac 0), .ref (L 6 0)]))], dyW cyI Ad D, hiW cyI cyO L V, [(ao, .inl (cyJ, 1, .inr (.inl (fo))))]] ((1 : Int32)) [[(h, .inr (5, [.ref (Ad 0), .ref (At 0), .ref (As 0), .ref (Ac 0), .ref (L 6 0)]))], dyW cyI Ad D, hiW cyI cyO L V, [(ao, .inl (cyJ, 1, .inr (.inl (fo))))]] := by
  refine wk_H (cc := cL_handOver) (maxL := 3) (ret := (some .int)) (hh := [(0, 8, 11, 15)]) (by decide) rfl (Nat.le_of_ble_eq_true rfl) ?_
  intro p9 e9 s9 m9 b9 t9 c9 A9 ls hx hb hr hts hown hlocks hml hK hA hD hP hl hS hX htab
  have hK2 := hK.sub [0, 1] (tys' := TY cyI cyO) rfl
  have hl : lv_has ls 3 [(0, .ref (h)), (1, .ref (ao))] := hl
  refine lv_aload_n hx hb dL_handOver_0 rfl (lv_at hl 1 rfl) ?_
  refine lv_iconst (v := (0 : Int32)) hx hb dL_handOver_1 (by decide) ?_
  refine lv_aload_n hx hb dL_handOver_2 rfl (lv_at hl 0 rfl) ?_
  refine gXV (gs := [[(h, .inr (5, [.ref (Ad 0), .ref (At 0), .ref (As 0), .ref (Ac 0), .ref (L 6 0)]))], dyW cyI Ad D, hiW cyI cyO L V, [(ao, .inl (cyJ, 1, .inr (.inl (fo))))]]) (As := []) (rest := [.int ((0 : Int32)), .ref (ao)]) ⟨hx, hb, hml, hown, hts⟩ (x_X5_handOver_IS l G cyI cyO h Ad At As Ac L D hm htr) (cwV 0 hts gL_handOver_X5_handOver rfl rfl rfl (by decide +kernel) ⟨Nat.le_of_ble_eq_true rfl, Nat.le_of_ble_eq_true rfl⟩) hK2 hX hP hD hS hA [0, 1] rfl rfl 0 5 rfl rfl rfl hl.1 rfl (Nat.le_of_ble_eq_true rfl) dL_handOver_3 ⟨Nat.le_refl _, Nat.le_refl _⟩ (fun ce9 q9 H locs hP hD hS hce hcv hcl => ?_)
  refine vx_catch (E := xIS) (name := xIS) hown [] ⟨0, 8, 11, 15⟩ [] htab (fun _ h9 => nomatch h9) (by decide) (by decide) (hts (.classLink RL 15 xIS) (by decide +kernel)) (va_Nw.use rfl (hX.2.2.2.1 xIS (by decide))) hce hcv hcl ?_
  refine W.eq (g2 := F0 m9 11 ls [.ref q9]) rfl ?_
  refine lv_astore_n (lv' := [(2, .ref (q9)), (0, .ref (h)), (1, .ref (ao))]) hx hb dL_handOver_11 rfl hl (by decide) rfl (fun ls hl => ?_)
  refine lv_iconst (v := (1 : Int32)) hx hb dL_handOver_12 (by decide) ?_
  refine W.widen (k := 1) (n := 6) (by decide) (by decide) ?_
  have hP : va_P G vwCl (cat [[(h, .inr (5, [.ref (Ad 0), .ref (At 0), .ref (As 0), .ref (Ac 0), .ref (L 6 0)]))], dyW cyI Ad D, hiW cyI cyO L V, [(ao, .inl (cyJ, 1, .inr (.inl (fo))))]]) H := hP
  have hD : va_D A9 (cat [[(h, .inr (5, [.ref (Ad 0), .ref (At 0), .ref (As 0), .ref (Ac 0), .ref (L 6 0)]))], dyW cyI Ad D, hiW cyI cyO L V, [(ao, .inl (cyJ, 1, .inr (.inl (fo))))]]) := hD
  exact end_i hx hb hr hlocks hK hP hD hS (rfl) dL_handOver_13
abbrev rh_L_callOff : Room := { frames := 7, cells := 1, slots := 6, locals := 106 }
set_option maxHeartbeats 4000000 in
set_option maxRecDepth 100000 in
theorem n_L_callOff (l : Launch) (G : va_G) (cyI cyO cyJ : ClassId) (h : Nat) (Ad At As Ac : Nat → Nat) (L : Nat → Nat → Nat) (D : DS) (V : HS) (hn : D.2.2.2.2.2.1 ≤ 20) (hV : V.1 ≤ 6) (hm : dHO D = true) (ao : Nat) (fo : Nat → Int64) : CH l G (TY3 cyI cyO cyJ) yL_callOff wsL_callOff rh_L_callOff [.ref (h), .ref (ao)] [[(h, .inr (5, [.ref (Ad 0), .ref (At 0), .ref (As 0), .ref (Ac 0), .ref (L 6 0)]))], dyW cyI Ad D, hiW cyI cyO L V, [(ao, .inl (cyJ, 1, .inr (.inl (fo))))]] ((0 : Int32)) [[(h, .inr (5, [.ref (Ad 0), .ref (At 0), .ref (As 0), .ref (Ac 0), .ref (L 6 0)]))], dyW cyI Ad (dBack D), hiW cyI cyO (svM L V) (svS V D), [(ao, .inl (cyJ, 1, .inr (.inl (vp_updL fo 0 ((nI ((mvAll D.2.2.2.2.1 D.2.1 D.2.2.2.2.2.1).2)).toInt64)))))]] := by
  refine wk_H (cc := cL_callOff) (maxL := 3) (ret := (some .int)) (hh := [(0, 8, 11, 15)]) (by decide) rfl (Nat.le_of_ble_eq_true rfl) ?_
  intro p9 e9 s9 m9 b9 t9 c9 A9 ls hx hb hr hts hown hlocks hml hK hA hD hP hl hS hX htab
  have hK2 := hK.sub [0, 1] (tys' := TY cyI cyO) rfl
  have hl : lv_has ls 3 [(0, .ref (h)), (1, .ref (ao))] := hl
  refine lv_aload_n hx hb dL_callOff_0 rfl (lv_at hl 1 rfl) ?_
  refine lv_iconst (v := (0 : Int32)) hx hb dL_callOff_1 (by decide) ?_
  refine lv_aload_n hx hb dL_callOff_2 rfl (lv_at hl 0 rfl) ?_
  refine gVi (gs := [[(h, .inr (5, [.ref (Ad 0), .ref (At 0), .ref (As 0), .ref (Ac 0), .ref (L 6 0)]))], dyW cyI Ad D, hiW cyI cyO L V, [(ao, .inl (cyJ, 1, .inr (.inl (fo))))]]) (As := []) (rest := [.int ((0 : Int32)), .ref (ao)]) ⟨hx, hb, hml, hown, hts⟩ (c_X5_callOff l G cyI cyO h Ad At As Ac L D V hn hV hm) (cwV 0 hts gL_callOff_X5_callOff rfl rfl rfl (by decide +kernel) ⟨Nat.le_of_ble_eq_true rfl, Nat.le_of_ble_eq_true rfl⟩) hK2 hP hD hS hA [0, 1, 2] rfl rfl rfl 0 5 rfl rfl rfl hl.1 rfl (Nat.le_of_ble_eq_true rfl) dL_callOff_3 ⟨Nat.zero_le _, Nat.zero_le _⟩ (fun H locs hP hD hS => ?_)
  have hP : va_P G vwCl (cat [[(h, .inr (5, [.ref (Ad 0), .ref (At 0), .ref (As 0), .ref (Ac 0), .ref (L 6 0)]))], dyW cyI Ad (dBack D), hiW cyI cyO (svM L V) (svS V D), [(ao, .inl (cyJ, 1, .inr (.inl (fo))))]]) H := hP
  have hD : va_D A9 (cat [[(h, .inr (5, [.ref (Ad 0), .ref (At 0), .ref (As 0), .ref (Ac 0), .ref (L 6 0)]))], dyW cyI Ad (dBack D), hiW cyI cyO (svM L V) (svS V D), [(ao, .inl (cyJ, 1, .inr (.inl (fo))))]]) := hD
  refine lv_i2l (v := (nI ((mvAll D.2.2.2.2.1 D.2.1 D.2.2.2.2.2.1).2)).toInt64) hx hb dL_callOff_6 rfl ?_
  refine va_last (f := fo) hx hb hK hP hD hS 80 2 rfl rfl in01 dL_callOff_7 (fun H locs hP hD hS => ?_)
  have hP : va_P G vwCl (cat [[(h, .inr (5, [.ref (Ad 0), .ref (At 0), .ref (As 0), .ref (Ac 0), .ref (L 6 0)]))], dyW cyI Ad (dBack D), hiW cyI cyO (svM L V) (svS V D), [(ao, .inl (cyJ, 1, .inr (.inl (vp_updL fo 0 ((nI ((mvAll D.2.2.2.2.1 D.2.1 D.2.2.2.2.2.1).2)).toInt64)))))]]) H := hP
  have hD : va_D A9 (cat [[(h, .inr (5, [.ref (Ad 0), .ref (At 0), .ref (As 0), .ref (Ac 0), .ref (L 6 0)]))], dyW cyI Ad (dBack D), hiW cyI cyO (svM L V) (svS V D), [(ao, .inl (cyJ, 1, .inr (.inl (vp_updL fo 0 ((nI ((mvAll D.2.2.2.2.1 D.2.1 D.2.2.2.2.2.1).2)).toInt64)))))]]) := hD
  refine lv_goto (tgt := 14) hx hb dL_callOff_8 (by decide) ?_
  refine lv_iconst (v := (0 : Int32)) hx hb dL_callOff_14 (by decide) ?_
  refine W.widen (k := 1) (n := 6) (by decide) (by decide) ?_
  have hP : va_P G vwCl (cat [[(h, .inr (5, [.ref (Ad 0), .ref (At 0), .ref (As 0), .ref (Ac 0), .ref (L 6 0)]))], dyW cyI Ad (dBack D), hiW cyI cyO (svM L V) (svS V D), [(ao, .inl (cyJ, 1, .inr (.inl (vp_updL fo 0 ((nI ((mvAll D.2.2.2.2.1 D.2.1 D.2.2.2.2.2.1).2)).toInt64)))))]]) H := hP
  have hD : va_D A9 (cat [[(h, .inr (5, [.ref (Ad 0), .ref (At 0), .ref (As 0), .ref (Ac 0), .ref (L 6 0)]))], dyW cyI Ad (dBack D), hiW cyI cyO (svM L V) (svS V D), [(ao, .inl (cyJ, 1, .inr (.inl (vp_updL fo 0 ((nI ((mvAll D.2.2.2.2.1 D.2.1 D.2.2.2.2.2.1).2)).toInt64)))))]]) := hD
  exact end_i hx hb hr hlocks hK hP hD hS (rfl) dL_callOff_15
set_option maxHeartbeats 4000000 in
set_option maxRecDepth 100000 in
theorem t_L_callOff_IS (l : Launch) (G : va_G) (cyI cyO cyJ : ClassId) (h : Nat) (Ad At As Ac : Nat → Nat) (L : Nat → Nat → Nat) (D : DS) (hm : dHO D = false) (V : HS) (ao : Nat) (fo : Nat → Int64) (htr : l.stackTraces = false) : CH l G (TY3 cyI cyO cyJ) yL_callOff wsL_callOff rh_L_callOff [.ref (h), .ref (ao)] [[(h, .inr (5, [.ref (Ad 0), .ref (At 0), .ref (As 0), .ref (Ac 0), .ref (L 6 0)]))], dyW cyI Ad D, hiW cyI cyO L V, [(ao, .inl (cyJ, 1, .inr (.inl (fo))))]] ((1 : Int32)) [[(h, .inr (5, [.ref (Ad 0), .ref (At 0), .ref (As 0), .ref (Ac 0), .ref (L 6 0)]))], dyW cyI Ad D, hiW cyI cyO L V, [(ao, .inl (cyJ, 1, .inr (.inl (fo))))]] := by
  refine wk_H (cc := cL_callOff) (maxL := 3) (ret := (some .int)) (hh := [(0, 8, 11, 15)]) (by decide) rfl (Nat.le_of_ble_eq_true rfl) ?_
  intro p9 e9 s9 m9 b9 t9 c9 A9 ls hx hb hr hts hown hlocks hml hK hA hD hP hl hS hX htab
  have hK2 := hK.sub [0, 1] (tys' := TY cyI cyO) rfl
  have hl : lv_has ls 3 [(0, .ref (h)), (1, .ref (ao))] := hl
  refine lv_aload_n hx hb dL_callOff_0 rfl (lv_at hl 1 rfl) ?_
  refine lv_iconst (v := (0 : Int32)) hx hb dL_callOff_1 (by decide) ?_
  refine lv_aload_n hx hb dL_callOff_2 rfl (lv_at hl 0 rfl) ?_
  refine gXV (gs := [[(h, .inr (5, [.ref (Ad 0), .ref (At 0), .ref (As 0), .ref (Ac 0), .ref (L 6 0)]))], dyW cyI Ad D, hiW cyI cyO L V, [(ao, .inl (cyJ, 1, .inr (.inl (fo))))]]) (As := []) (rest := [.int ((0 : Int32)), .ref (ao)]) ⟨hx, hb, hml, hown, hts⟩ (x_X5_callOff_IS l G cyI cyO h Ad At As Ac L D hm htr) (cwV 0 hts gL_callOff_X5_callOff rfl rfl rfl (by decide +kernel) ⟨Nat.le_of_ble_eq_true rfl, Nat.le_of_ble_eq_true rfl⟩) hK2 hX hP hD hS hA [0, 1] rfl rfl 0 5 rfl rfl rfl hl.1 rfl (Nat.le_of_ble_eq_true rfl) dL_callOff_3 ⟨Nat.le_refl _, Nat.le_refl _⟩ (fun ce9 q9 H locs hP hD hS hce hcv hcl => ?_)
  refine vx_catch (E := xIS) (name := xIS) hown [] ⟨0, 8, 11, 15⟩ [] htab (fun _ h9 => nomatch h9) (by decide) (by decide) (hts (.classLink RL 15 xIS) (by decide +kernel)) (va_Nw.use rfl (hX.2.2.2.1 xIS (by decide))) hce hcv hcl ?_
  refine W.eq (g2 := F0 m9 11 ls [.ref q9]) rfl ?_
  refine lv_astore_n (lv' := [(2, .ref (q9)), (0, .ref (h)), (1, .ref (ao))]) hx hb dL_callOff_11 rfl hl (by decide) rfl (fun ls hl => ?_)
  refine lv_iconst (v := (1 : Int32)) hx hb dL_callOff_12 (by decide) ?_
  refine W.widen (k := 1) (n := 6) (by decide) (by decide) ?_
  have hP : va_P G vwCl (cat [[(h, .inr (5, [.ref (Ad 0), .ref (At 0), .ref (As 0), .ref (Ac 0), .ref (L 6 0)]))], dyW cyI Ad D, hiW cyI cyO L V, [(ao, .inl (cyJ, 1, .inr (.inl (fo))))]]) H := hP
  have hD : va_D A9 (cat [[(h, .inr (5, [.ref (Ad 0), .ref (At 0), .ref (As 0), .ref (Ac 0), .ref (L 6 0)]))], dyW cyI Ad D, hiW cyI cyO L V, [(ao, .inl (cyJ, 1, .inr (.inl (fo))))]]) := hD
  exact end_i hx hb hr hlocks hK hP hD hS (rfl) dL_callOff_13
abbrev rh_L_planned : Room := { frames := 8, cells := 1, slots := 6, locals := 124 }
set_option maxHeartbeats 4000000 in
set_option maxRecDepth 100000 in
theorem n_L_planned (l : Launch) (G : va_G) (cyI cyO cyJ : ClassId) (h : Nat) (Ad At As Ac : Nat → Nat) (L : Nat → Nat → Nat) (D : DS) (hn : D.2.2.2.2.2.1 ≤ 20) (k : Nat) (hk : k < D.2.2.2.2.2.1) (ao : Nat) (fo : Nat → Int64) : CH l G (TY3 cyI cyO cyJ) yL_planned wsL_planned rh_L_planned [.ref (h), .int (nI (k)), .ref (ao)] [[(h, .inr (5, [.ref (Ad 0), .ref (At 0), .ref (As 0), .ref (Ac 0), .ref (L 6 0)]))], dyW cyI Ad D, [(ao, .inl (cyJ, 1, .inr (.inl (fo))))]] ((0 : Int32)) [[(h, .inr (5, [.ref (Ad 0), .ref (At 0), .ref (As 0), .ref (Ac 0), .ref (L 6 0)]))], dyW cyI Ad D, [(ao, .inl (cyJ, 1, .inr (.inl (vp_updL fo 0 ((dPlan D k).toInt64)))))]] := by
  refine wk_H (cc := cL_planned) (maxL := 4) (ret := (some .int)) (hh := [(0, 9, 12, 20)]) (by decide) rfl (Nat.le_of_ble_eq_true rfl) ?_
  intro p9 e9 s9 m9 b9 t9 c9 A9 ls hx hb hr hts hown hlocks hml hK hA hD hP hl hS hX htab
  have hK2 := hK.sub [0, 1] (tys' := TY cyI cyO) rfl
  have hl : lv_has ls 4 [(0, .ref (h)), (1, .int (nI (k))), (2, .ref (ao))] := hl
  refine lv_aload_n hx hb dL_planned_0 rfl (lv_at hl 2 rfl) ?_
  refine lv_iconst (v := (0 : Int32)) hx hb dL_planned_1 (by decide) ?_
  refine lv_aload_n hx hb dL_planned_2 rfl (lv_at hl 0 rfl) ?_
  refine lv_iload_n hx hb dL_planned_3 rfl (lv_at hl 1 rfl) ?_
  refine gVi (gs := [[(h, .inr (5, [.ref (Ad 0), .ref (At 0), .ref (As 0), .ref (Ac 0), .ref (L 6 0)]))], dyW cyI Ad D, [(ao, .inl (cyJ, 1, .inr (.inl (fo))))]]) (As := [.int (nI (k))]) (rest := [.int ((0 : Int32)), .ref (ao)]) ⟨hx, hb, hml, hown, hts⟩ (c_X5_planned l G cyI cyO h Ad At As Ac L D hn k hk) (cwV 1 hts gL_planned_X5_planned rfl rfl rfl (by decide +kernel) ⟨Nat.le_of_ble_eq_true rfl, Nat.le_of_ble_eq_true rfl⟩) hK2 hP hD hS hA [0, 1] rfl rfl rfl 0 5 rfl rfl rfl hl.1 rfl (Nat.le_of_ble_eq_true rfl) dL_planned_4 ⟨Nat.zero_le _, Nat.zero_le _⟩ (fun H locs hP hD hS => ?_)
  have hP : va_P G vwCl (cat [[(h, .inr (5, [.ref (Ad 0), .ref (At 0), .ref (As 0), .ref (Ac 0), .ref (L 6 0)]))], dyW cyI Ad D, [(ao, .inl (cyJ, 1, .inr (.inl (fo))))]]) H := hP
  have hD : va_D A9 (cat [[(h, .inr (5, [.ref (Ad 0), .ref (At 0), .ref (As 0), .ref (Ac 0), .ref (L 6 0)]))], dyW cyI Ad D, [(ao, .inl (cyJ, 1, .inr (.inl (fo))))]]) := hD
  refine lv_i2l (v := (dPlan D k).toInt64) hx hb dL_planned_7 rfl ?_
  refine va_last (f := fo) hx hb hK hP hD hS 12 2 rfl rfl in01 dL_planned_8 (fun H locs hP hD hS => ?_)
  have hP : va_P G vwCl (cat [[(h, .inr (5, [.ref (Ad 0), .ref (At 0), .ref (As 0), .ref (Ac 0), .ref (L 6 0)]))], dyW cyI Ad D, [(ao, .inl (cyJ, 1, .inr (.inl (vp_updL fo 0 ((dPlan D k).toInt64)))))]]) H := hP
  have hD : va_D A9 (cat [[(h, .inr (5, [.ref (Ad 0), .ref (At 0), .ref (As 0), .ref (Ac 0), .ref (L 6 0)]))], dyW cyI Ad D, [(ao, .inl (cyJ, 1, .inr (.inl (vp_updL fo 0 ((dPlan D k).toInt64)))))]]) := hD
  refine lv_goto (tgt := 15) hx hb dL_planned_9 (by decide) ?_
  refine lv_iconst (v := (0 : Int32)) hx hb dL_planned_15 (by decide) ?_
  refine W.widen (k := 1) (n := 6) (by decide) (by decide) ?_
  have hP : va_P G vwCl (cat [[(h, .inr (5, [.ref (Ad 0), .ref (At 0), .ref (As 0), .ref (Ac 0), .ref (L 6 0)]))], dyW cyI Ad D, [(ao, .inl (cyJ, 1, .inr (.inl (vp_updL fo 0 ((dPlan D k).toInt64)))))]]) H := hP
  have hD : va_D A9 (cat [[(h, .inr (5, [.ref (Ad 0), .ref (At 0), .ref (As 0), .ref (Ac 0), .ref (L 6 0)]))], dyW cyI Ad D, [(ao, .inl (cyJ, 1, .inr (.inl (vp_updL fo 0 ((dPlan D k).toInt64)))))]]) := hD
  exact end_i hx hb hr hlocks hK hP hD hS (rfl) dL_planned_16
set_option maxHeartbeats 4000000 in
set_option maxRecDepth 100000 in
theorem t_L_planned_IO (l : Launch) (G : va_G) (cyI cyO cyJ : ClassId) (h : Nat) (Ad At As Ac : Nat → Nat) (L : Nat → Nat → Nat) (D : DS) (hn : D.2.2.2.2.2.1 ≤ 20) (x : Int32) (hx9 : dHas D.2.2.2.2.2.1 x = false) (ao : Nat) (fo : Nat → Int64) (htr : l.stackTraces = false) : CH l G (TY3 cyI cyO cyJ) yL_planned wsL_planned rh_L_planned [.ref (h), .int (x), .ref (ao)] [[(h, .inr (5, [.ref (Ad 0), .ref (At 0), .ref (As 0), .ref (Ac 0), .ref (L 6 0)]))], dyW cyI Ad D, [(ao, .inl (cyJ, 1, .inr (.inl (fo))))]] ((1 : Int32)) [[(h, .inr (5, [.ref (Ad 0), .ref (At 0), .ref (As 0), .ref (Ac 0), .ref (L 6 0)]))], dyW cyI Ad D, [(ao, .inl (cyJ, 1, .inr (.inl (fo))))]] := by
  refine wk_H (cc := cL_planned) (maxL := 4) (ret := (some .int)) (hh := [(0, 9, 12, 20)]) (by decide) rfl (Nat.le_of_ble_eq_true rfl) ?_
  intro p9 e9 s9 m9 b9 t9 c9 A9 ls hx hb hr hts hown hlocks hml hK hA hD hP hl hS hX htab
  have hK2 := hK.sub [0, 1] (tys' := TY cyI cyO) rfl
  have hl : lv_has ls 4 [(0, .ref (h)), (1, .int (x)), (2, .ref (ao))] := hl
  refine lv_aload_n hx hb dL_planned_0 rfl (lv_at hl 2 rfl) ?_
  refine lv_iconst (v := (0 : Int32)) hx hb dL_planned_1 (by decide) ?_
  refine lv_aload_n hx hb dL_planned_2 rfl (lv_at hl 0 rfl) ?_
  refine lv_iload_n hx hb dL_planned_3 rfl (lv_at hl 1 rfl) ?_
  refine gXV (gs := [[(h, .inr (5, [.ref (Ad 0), .ref (At 0), .ref (As 0), .ref (Ac 0), .ref (L 6 0)]))], dyW cyI Ad D, [(ao, .inl (cyJ, 1, .inr (.inl (fo))))]]) (As := [.int (x)]) (rest := [.int ((0 : Int32)), .ref (ao)]) ⟨hx, hb, hml, hown, hts⟩ (x_X5_planned_IO l G cyI cyO h Ad At As Ac L D hn x hx9 htr) (cwV 1 hts gL_planned_X5_planned rfl rfl rfl (by decide +kernel) ⟨Nat.le_of_ble_eq_true rfl, Nat.le_of_ble_eq_true rfl⟩) hK2 hX hP hD hS hA [0, 1] rfl rfl 0 5 rfl rfl rfl hl.1 rfl (Nat.le_of_ble_eq_true rfl) dL_planned_4 ⟨Nat.le_refl _, Nat.le_refl _⟩ (fun ce9 q9 H locs hP hD hS hce hcv hcl => ?_)
  refine vx_catch (E := xIO) (name := xIO) hown [] ⟨0, 9, 12, 20⟩ [] htab (fun _ h9 => nomatch h9) (by decide) (by decide) (hts (.classLink RL 20 xIO) (by decide +kernel)) (va_Nw.use rfl (hX.2.2.2.1 xIO (by decide))) hce hcv hcl ?_
  refine W.eq (g2 := F0 m9 12 ls [.ref q9]) rfl ?_
  refine lv_astore_n (lv' := [(3, .ref (q9)), (0, .ref (h)), (1, .int (x)), (2, .ref (ao))]) hx hb dL_planned_12 rfl hl (by decide) rfl (fun ls hl => ?_)
  refine lv_iconst (v := (1 : Int32)) hx hb dL_planned_13 (by decide) ?_
  refine W.widen (k := 1) (n := 6) (by decide) (by decide) ?_
  have hP : va_P G vwCl (cat [[(h, .inr (5, [.ref (Ad 0), .ref (At 0), .ref (As 0), .ref (Ac 0), .ref (L 6 0)]))], dyW cyI Ad D, [(ao, .inl (cyJ, 1, .inr (.inl (fo))))]]) H := hP
  have hD : va_D A9 (cat [[(h, .inr (5, [.ref (Ad 0), .ref (At 0), .ref (As 0), .ref (Ac 0), .ref (L 6 0)]))], dyW cyI Ad D, [(ao, .inl (cyJ, 1, .inr (.inl (fo))))]]) := hD
  exact end_i hx hb hr hlocks hK hP hD hS (rfl) dL_planned_14
abbrev rh_L_ifPlanned : Room := { frames := 8, cells := 1, slots := 6, locals := 124 }
set_option maxHeartbeats 4000000 in
set_option maxRecDepth 100000 in
theorem n_L_ifPlanned (l : Launch) (G : va_G) (cyI cyO cyJ : ClassId) (h : Nat) (Ad At As Ac : Nat → Nat) (L : Nat → Nat → Nat) (S : SS) (D : DS) (hn : D.2.2.2.2.2.1 ≤ 20) (k : Nat) (hk : k < D.2.2.2.2.2.1) (ao : Nat) (fo : Nat → Int64) : CH l G (TY3 cyI cyO cyJ) yL_ifPlanned wsL_ifPlanned rh_L_ifPlanned [.ref (h), .int (nI (k)), .ref (ao)] [[(h, .inr (5, [.ref (Ad 0), .ref (At 0), .ref (As 0), .ref (Ac 0), .ref (L 6 0)]))], shW cyI As S, dyW cyI Ad D, [(ao, .inl (cyJ, 1, .inr (.inl (fo))))]] ((0 : Int32)) [[(h, .inr (5, [.ref (Ad 0), .ref (At 0), .ref (As 0), .ref (Ac 0), .ref (L 6 0)]))], shW cyI As (shOut S D), dyW cyI Ad D, [(ao, .inl (cyJ, 1, .inr (.inl (vp_updL fo 0 (((shOut S D).1 k).toInt64)))))]] := by
  refine wk_H (cc := cL_ifPlanned) (maxL := 4) (ret := (some .int)) (hh := [(0, 9, 12, 20)]) (by decide) rfl (Nat.le_of_ble_eq_true rfl) ?_
  intro p9 e9 s9 m9 b9 t9 c9 A9 ls hx hb hr hts hown hlocks hml hK hA hD hP hl hS hX htab
  have hK2 := hK.sub [0, 1] (tys' := TY cyI cyO) rfl
  have hl : lv_has ls 4 [(0, .ref (h)), (1, .int (nI (k))), (2, .ref (ao))] := hl
  refine lv_aload_n hx hb dL_ifPlanned_0 rfl (lv_at hl 2 rfl) ?_
  refine lv_iconst (v := (0 : Int32)) hx hb dL_ifPlanned_1 (by decide) ?_
  refine lv_aload_n hx hb dL_ifPlanned_2 rfl (lv_at hl 0 rfl) ?_
  refine lv_iload_n hx hb dL_ifPlanned_3 rfl (lv_at hl 1 rfl) ?_
  refine gVi (gs := [[(h, .inr (5, [.ref (Ad 0), .ref (At 0), .ref (As 0), .ref (Ac 0), .ref (L 6 0)]))], shW cyI As S, dyW cyI Ad D, [(ao, .inl (cyJ, 1, .inr (.inl (fo))))]]) (As := [.int (nI (k))]) (rest := [.int ((0 : Int32)), .ref (ao)]) ⟨hx, hb, hml, hown, hts⟩ (c_X5_ifPlanned l G cyI cyO h Ad At As Ac L S D hn k hk) (cwV 1 hts gL_ifPlanned_X5_ifPlanned rfl rfl rfl (by decide +kernel) ⟨Nat.le_of_ble_eq_true rfl, Nat.le_of_ble_eq_true rfl⟩) hK2 hP hD hS hA [0, 1, 2] rfl rfl rfl 0 5 rfl rfl rfl hl.1 rfl (Nat.le_of_ble_eq_true rfl) dL_ifPlanned_4 ⟨Nat.zero_le _, Nat.zero_le _⟩ (fun H locs hP hD hS => ?_)
  have hP : va_P G vwCl (cat [[(h, .inr (5, [.ref (Ad 0), .ref (At 0), .ref (As 0), .ref (Ac 0), .ref (L 6 0)]))], shW cyI As (shOut S D), dyW cyI Ad D, [(ao, .inl (cyJ, 1, .inr (.inl (fo))))]]) H := hP
  have hD : va_D A9 (cat [[(h, .inr (5, [.ref (Ad 0), .ref (At 0), .ref (As 0), .ref (Ac 0), .ref (L 6 0)]))], shW cyI As (shOut S D), dyW cyI Ad D, [(ao, .inl (cyJ, 1, .inr (.inl (fo))))]]) := hD
  refine lv_i2l (v := ((shOut S D).1 k).toInt64) hx hb dL_ifPlanned_7 rfl ?_
  refine va_last (f := fo) hx hb hK hP hD hS 25 2 rfl rfl in01 dL_ifPlanned_8 (fun H locs hP hD hS => ?_)
  have hP : va_P G vwCl (cat [[(h, .inr (5, [.ref (Ad 0), .ref (At 0), .ref (As 0), .ref (Ac 0), .ref (L 6 0)]))], shW cyI As (shOut S D), dyW cyI Ad D, [(ao, .inl (cyJ, 1, .inr (.inl (vp_updL fo 0 (((shOut S D).1 k).toInt64)))))]]) H := hP
  have hD : va_D A9 (cat [[(h, .inr (5, [.ref (Ad 0), .ref (At 0), .ref (As 0), .ref (Ac 0), .ref (L 6 0)]))], shW cyI As (shOut S D), dyW cyI Ad D, [(ao, .inl (cyJ, 1, .inr (.inl (vp_updL fo 0 (((shOut S D).1 k).toInt64)))))]]) := hD
  refine lv_goto (tgt := 15) hx hb dL_ifPlanned_9 (by decide) ?_
  refine lv_iconst (v := (0 : Int32)) hx hb dL_ifPlanned_15 (by decide) ?_
  refine W.widen (k := 1) (n := 6) (by decide) (by decide) ?_
  have hP : va_P G vwCl (cat [[(h, .inr (5, [.ref (Ad 0), .ref (At 0), .ref (As 0), .ref (Ac 0), .ref (L 6 0)]))], shW cyI As (shOut S D), dyW cyI Ad D, [(ao, .inl (cyJ, 1, .inr (.inl (vp_updL fo 0 (((shOut S D).1 k).toInt64)))))]]) H := hP
  have hD : va_D A9 (cat [[(h, .inr (5, [.ref (Ad 0), .ref (At 0), .ref (As 0), .ref (Ac 0), .ref (L 6 0)]))], shW cyI As (shOut S D), dyW cyI Ad D, [(ao, .inl (cyJ, 1, .inr (.inl (vp_updL fo 0 (((shOut S D).1 k).toInt64)))))]]) := hD
  exact end_i hx hb hr hlocks hK hP hD hS (rfl) dL_ifPlanned_16
set_option maxHeartbeats 4000000 in
set_option maxRecDepth 100000 in
theorem t_L_ifPlanned_IO (l : Launch) (G : va_G) (cyI cyO cyJ : ClassId) (h : Nat) (Ad At As Ac : Nat → Nat) (L : Nat → Nat → Nat) (D : DS) (hn : D.2.2.2.2.2.1 ≤ 20) (x : Int32) (hx9 : dHas D.2.2.2.2.2.1 x = false) (S : SS) (ao : Nat) (fo : Nat → Int64) (htr : l.stackTraces = false) : CH l G (TY3 cyI cyO cyJ) yL_ifPlanned wsL_ifPlanned rh_L_ifPlanned [.ref (h), .int (x), .ref (ao)] [[(h, .inr (5, [.ref (Ad 0), .ref (At 0), .ref (As 0), .ref (Ac 0), .ref (L 6 0)]))], shW cyI As S, dyW cyI Ad D, [(ao, .inl (cyJ, 1, .inr (.inl (fo))))]] ((1 : Int32)) [[(h, .inr (5, [.ref (Ad 0), .ref (At 0), .ref (As 0), .ref (Ac 0), .ref (L 6 0)]))], shW cyI As S, dyW cyI Ad D, [(ao, .inl (cyJ, 1, .inr (.inl (fo))))]] := by
  refine wk_H (cc := cL_ifPlanned) (maxL := 4) (ret := (some .int)) (hh := [(0, 9, 12, 20)]) (by decide) rfl (Nat.le_of_ble_eq_true rfl) ?_
  intro p9 e9 s9 m9 b9 t9 c9 A9 ls hx hb hr hts hown hlocks hml hK hA hD hP hl hS hX htab
  have hK2 := hK.sub [0, 1] (tys' := TY cyI cyO) rfl
  have hl : lv_has ls 4 [(0, .ref (h)), (1, .int (x)), (2, .ref (ao))] := hl
  refine lv_aload_n hx hb dL_ifPlanned_0 rfl (lv_at hl 2 rfl) ?_
  refine lv_iconst (v := (0 : Int32)) hx hb dL_ifPlanned_1 (by decide) ?_
  refine lv_aload_n hx hb dL_ifPlanned_2 rfl (lv_at hl 0 rfl) ?_
  refine lv_iload_n hx hb dL_ifPlanned_3 rfl (lv_at hl 1 rfl) ?_
  refine gXV (gs := [[(h, .inr (5, [.ref (Ad 0), .ref (At 0), .ref (As 0), .ref (Ac 0), .ref (L 6 0)]))], shW cyI As S, dyW cyI Ad D, [(ao, .inl (cyJ, 1, .inr (.inl (fo))))]]) (As := [.int (x)]) (rest := [.int ((0 : Int32)), .ref (ao)]) ⟨hx, hb, hml, hown, hts⟩ (x_X5_ifPlanned_IO l G cyI cyO h Ad At As Ac L D hn x hx9 htr) (cwV 1 hts gL_ifPlanned_X5_ifPlanned rfl rfl rfl (by decide +kernel) ⟨Nat.le_of_ble_eq_true rfl, Nat.le_of_ble_eq_true rfl⟩) hK2 hX hP hD hS hA [0, 2] rfl rfl 0 5 rfl rfl rfl hl.1 rfl (Nat.le_of_ble_eq_true rfl) dL_ifPlanned_4 ⟨Nat.le_refl _, Nat.le_refl _⟩ (fun ce9 q9 H locs hP hD hS hce hcv hcl => ?_)
  refine vx_catch (E := xIO) (name := xIO) hown [] ⟨0, 9, 12, 20⟩ [] htab (fun _ h9 => nomatch h9) (by decide) (by decide) (hts (.classLink RL 20 xIO) (by decide +kernel)) (va_Nw.use rfl (hX.2.2.2.1 xIO (by decide))) hce hcv hcl ?_
  refine W.eq (g2 := F0 m9 12 ls [.ref q9]) rfl ?_
  refine lv_astore_n (lv' := [(3, .ref (q9)), (0, .ref (h)), (1, .int (x)), (2, .ref (ao))]) hx hb dL_ifPlanned_12 rfl hl (by decide) rfl (fun ls hl => ?_)
  refine lv_iconst (v := (1 : Int32)) hx hb dL_ifPlanned_13 (by decide) ?_
  refine W.widen (k := 1) (n := 6) (by decide) (by decide) ?_
  have hP : va_P G vwCl (cat [[(h, .inr (5, [.ref (Ad 0), .ref (At 0), .ref (As 0), .ref (Ac 0), .ref (L 6 0)]))], shW cyI As S, dyW cyI Ad D, [(ao, .inl (cyJ, 1, .inr (.inl (fo))))]]) H := hP
  have hD : va_D A9 (cat [[(h, .inr (5, [.ref (Ad 0), .ref (At 0), .ref (As 0), .ref (Ac 0), .ref (L 6 0)]))], shW cyI As S, dyW cyI Ad D, [(ao, .inl (cyJ, 1, .inr (.inl (fo))))]]) := hD
  exact end_i hx hb hr hlocks hK hP hD hS (rfl) dL_ifPlanned_14
abbrev rh_L_reason : Room := { frames := 8, cells := 1, slots := 6, locals := 124 }
set_option maxHeartbeats 4000000 in
set_option maxRecDepth 100000 in
theorem n_L_reason (l : Launch) (G : va_G) (cyI cyO cyJ : ClassId) (h : Nat) (Ad At As Ac : Nat → Nat) (L : Nat → Nat → Nat) (S : SS) (D : DS) (hn : D.2.2.2.2.2.1 ≤ 20) (k : Nat) (hk : k < D.2.2.2.2.2.1) (ao : Nat) (fo : Nat → Int64) : CH l G (TY3 cyI cyO cyJ) yL_reason wsL_reason rh_L_reason [.ref (h), .int (nI (k)), .ref (ao)] [[(h, .inr (5, [.ref (Ad 0), .ref (At 0), .ref (As 0), .ref (Ac 0), .ref (L 6 0)]))], shW cyI As S, dyW cyI Ad D, [(ao, .inl (cyJ, 1, .inr (.inl (fo))))]] ((0 : Int32)) [[(h, .inr (5, [.ref (Ad 0), .ref (At 0), .ref (As 0), .ref (Ac 0), .ref (L 6 0)]))], shW cyI As (shOut S D), dyW cyI Ad D, [(ao, .inl (cyJ, 1, .inr (.inl (vp_updL fo 0 ((rsn (shOut S D) D k).toInt64)))))]] := by
  refine wk_H (cc := cL_reason) (maxL := 4) (ret := (some .int)) (hh := [(0, 9, 12, 20)]) (by decide) rfl (Nat.le_of_ble_eq_true rfl) ?_
  intro p9 e9 s9 m9 b9 t9 c9 A9 ls hx hb hr hts hown hlocks hml hK hA hD hP hl hS hX htab
  have hK2 := hK.sub [0, 1] (tys' := TY cyI cyO) rfl
  have hl : lv_has ls 4 [(0, .ref (h)), (1, .int (nI (k))), (2, .ref (ao))] := hl
  refine lv_aload_n hx hb dL_reason_0 rfl (lv_at hl 2 rfl) ?_
  refine lv_iconst (v := (0 : Int32)) hx hb dL_reason_1 (by decide) ?_
  refine lv_aload_n hx hb dL_reason_2 rfl (lv_at hl 0 rfl) ?_
  refine lv_iload_n hx hb dL_reason_3 rfl (lv_at hl 1 rfl) ?_
  refine gVi (gs := [[(h, .inr (5, [.ref (Ad 0), .ref (At 0), .ref (As 0), .ref (Ac 0), .ref (L 6 0)]))], shW cyI As S, dyW cyI Ad D, [(ao, .inl (cyJ, 1, .inr (.inl (fo))))]]) (As := [.int (nI (k))]) (rest := [.int ((0 : Int32)), .ref (ao)]) ⟨hx, hb, hml, hown, hts⟩ (c_X5_reason l G cyI cyO h Ad At As Ac L S D hn k hk) (cwV 1 hts gL_reason_X5_reason rfl rfl rfl (by decide +kernel) ⟨Nat.le_of_ble_eq_true rfl, Nat.le_of_ble_eq_true rfl⟩) hK2 hP hD hS hA [0, 1, 2] rfl rfl rfl 0 5 rfl rfl rfl hl.1 rfl (Nat.le_of_ble_eq_true rfl) dL_reason_4 ⟨Nat.zero_le _, Nat.zero_le _⟩ (fun H locs hP hD hS => ?_)
  have hP : va_P G vwCl (cat [[(h, .inr (5, [.ref (Ad 0), .ref (At 0), .ref (As 0), .ref (Ac 0), .ref (L 6 0)]))], shW cyI As (shOut S D), dyW cyI Ad D, [(ao, .inl (cyJ, 1, .inr (.inl (fo))))]]) H := hP
  have hD : va_D A9 (cat [[(h, .inr (5, [.ref (Ad 0), .ref (At 0), .ref (As 0), .ref (Ac 0), .ref (L 6 0)]))], shW cyI As (shOut S D), dyW cyI Ad D, [(ao, .inl (cyJ, 1, .inr (.inl (fo))))]]) := hD
  refine lv_i2l (v := (rsn (shOut S D) D k).toInt64) hx hb dL_reason_7 rfl ?_
  refine va_last (f := fo) hx hb hK hP hD hS 25 2 rfl rfl in01 dL_reason_8 (fun H locs hP hD hS => ?_)
  have hP : va_P G vwCl (cat [[(h, .inr (5, [.ref (Ad 0), .ref (At 0), .ref (As 0), .ref (Ac 0), .ref (L 6 0)]))], shW cyI As (shOut S D), dyW cyI Ad D, [(ao, .inl (cyJ, 1, .inr (.inl (vp_updL fo 0 ((rsn (shOut S D) D k).toInt64)))))]]) H := hP
  have hD : va_D A9 (cat [[(h, .inr (5, [.ref (Ad 0), .ref (At 0), .ref (As 0), .ref (Ac 0), .ref (L 6 0)]))], shW cyI As (shOut S D), dyW cyI Ad D, [(ao, .inl (cyJ, 1, .inr (.inl (vp_updL fo 0 ((rsn (shOut S D) D k).toInt64)))))]]) := hD
  refine lv_goto (tgt := 15) hx hb dL_reason_9 (by decide) ?_
  refine lv_iconst (v := (0 : Int32)) hx hb dL_reason_15 (by decide) ?_
  refine W.widen (k := 1) (n := 6) (by decide) (by decide) ?_
  have hP : va_P G vwCl (cat [[(h, .inr (5, [.ref (Ad 0), .ref (At 0), .ref (As 0), .ref (Ac 0), .ref (L 6 0)]))], shW cyI As (shOut S D), dyW cyI Ad D, [(ao, .inl (cyJ, 1, .inr (.inl (vp_updL fo 0 ((rsn (shOut S D) D k).toInt64)))))]]) H := hP
  have hD : va_D A9 (cat [[(h, .inr (5, [.ref (Ad 0), .ref (At 0), .ref (As 0), .ref (Ac 0), .ref (L 6 0)]))], shW cyI As (shOut S D), dyW cyI Ad D, [(ao, .inl (cyJ, 1, .inr (.inl (vp_updL fo 0 ((rsn (shOut S D) D k).toInt64)))))]]) := hD
  exact end_i hx hb hr hlocks hK hP hD hS (rfl) dL_reason_16
set_option maxHeartbeats 4000000 in
set_option maxRecDepth 100000 in
theorem t_L_reason_IO (l : Launch) (G : va_G) (cyI cyO cyJ : ClassId) (h : Nat) (Ad At As Ac : Nat → Nat) (L : Nat → Nat → Nat) (D : DS) (hn : D.2.2.2.2.2.1 ≤ 20) (x : Int32) (hx9 : dHas D.2.2.2.2.2.1 x = false) (S : SS) (ao : Nat) (fo : Nat → Int64) (htr : l.stackTraces = false) : CH l G (TY3 cyI cyO cyJ) yL_reason wsL_reason rh_L_reason [.ref (h), .int (x), .ref (ao)] [[(h, .inr (5, [.ref (Ad 0), .ref (At 0), .ref (As 0), .ref (Ac 0), .ref (L 6 0)]))], shW cyI As S, dyW cyI Ad D, [(ao, .inl (cyJ, 1, .inr (.inl (fo))))]] ((1 : Int32)) [[(h, .inr (5, [.ref (Ad 0), .ref (At 0), .ref (As 0), .ref (Ac 0), .ref (L 6 0)]))], shW cyI As S, dyW cyI Ad D, [(ao, .inl (cyJ, 1, .inr (.inl (fo))))]] := by
  refine wk_H (cc := cL_reason) (maxL := 4) (ret := (some .int)) (hh := [(0, 9, 12, 20)]) (by decide) rfl (Nat.le_of_ble_eq_true rfl) ?_
  intro p9 e9 s9 m9 b9 t9 c9 A9 ls hx hb hr hts hown hlocks hml hK hA hD hP hl hS hX htab
  have hK2 := hK.sub [0, 1] (tys' := TY cyI cyO) rfl
  have hl : lv_has ls 4 [(0, .ref (h)), (1, .int (x)), (2, .ref (ao))] := hl
  refine lv_aload_n hx hb dL_reason_0 rfl (lv_at hl 2 rfl) ?_
  refine lv_iconst (v := (0 : Int32)) hx hb dL_reason_1 (by decide) ?_
  refine lv_aload_n hx hb dL_reason_2 rfl (lv_at hl 0 rfl) ?_
  refine lv_iload_n hx hb dL_reason_3 rfl (lv_at hl 1 rfl) ?_
  refine gXV (gs := [[(h, .inr (5, [.ref (Ad 0), .ref (At 0), .ref (As 0), .ref (Ac 0), .ref (L 6 0)]))], shW cyI As S, dyW cyI Ad D, [(ao, .inl (cyJ, 1, .inr (.inl (fo))))]]) (As := [.int (x)]) (rest := [.int ((0 : Int32)), .ref (ao)]) ⟨hx, hb, hml, hown, hts⟩ (x_X5_reason_IO l G cyI cyO h Ad At As Ac L D hn x hx9 htr) (cwV 1 hts gL_reason_X5_reason rfl rfl rfl (by decide +kernel) ⟨Nat.le_of_ble_eq_true rfl, Nat.le_of_ble_eq_true rfl⟩) hK2 hX hP hD hS hA [0, 2] rfl rfl 0 5 rfl rfl rfl hl.1 rfl (Nat.le_of_ble_eq_true rfl) dL_reason_4 ⟨Nat.le_refl _, Nat.le_refl _⟩ (fun ce9 q9 H locs hP hD hS hce hcv hcl => ?_)
  refine vx_catch (E := xIO) (name := xIO) hown [] ⟨0, 9, 12, 20⟩ [] htab (fun _ h9 => nomatch h9) (by decide) (by decide) (hts (.classLink RL 20 xIO) (by decide +kernel)) (va_Nw.use rfl (hX.2.2.2.1 xIO (by decide))) hce hcv hcl ?_
  refine W.eq (g2 := F0 m9 12 ls [.ref q9]) rfl ?_
  refine lv_astore_n (lv' := [(3, .ref (q9)), (0, .ref (h)), (1, .int (x)), (2, .ref (ao))]) hx hb dL_reason_12 rfl hl (by decide) rfl (fun ls hl => ?_)
  refine lv_iconst (v := (1 : Int32)) hx hb dL_reason_13 (by decide) ?_
  refine W.widen (k := 1) (n := 6) (by decide) (by decide) ?_
  have hP : va_P G vwCl (cat [[(h, .inr (5, [.ref (Ad 0), .ref (At 0), .ref (As 0), .ref (Ac 0), .ref (L 6 0)]))], shW cyI As S, dyW cyI Ad D, [(ao, .inl (cyJ, 1, .inr (.inl (fo))))]]) H := hP
  have hD : va_D A9 (cat [[(h, .inr (5, [.ref (Ad 0), .ref (At 0), .ref (As 0), .ref (Ac 0), .ref (L 6 0)]))], shW cyI As S, dyW cyI Ad D, [(ao, .inl (cyJ, 1, .inr (.inl (fo))))]]) := hD
  exact end_i hx hb hr hlocks hK hP hD hS (rfl) dL_reason_14
abbrev rh_L_changesIf : Room := { frames := 8, cells := 1, slots := 6, locals := 134 }
set_option maxHeartbeats 4000000 in
set_option maxRecDepth 100000 in
theorem n_L_changesIf (l : Launch) (G : va_G) (cyI cyO cyJ : ClassId) (h : Nat) (Ad At As Ac : Nat → Nat) (L : Nat → Nat → Nat) (S : SS) (T : DS) (D : DS) (k : Nat) (hk : k < 6) (hn : D.2.2.2.2.2.1 ≤ 20) (ao : Nat) (fo : Nat → Int64) : CH l G (TY3 cyI cyO cyJ) yL_changesIf wsL_changesIf rh_L_changesIf [.ref (h), .int (nI (k)), .ref (ao)] [[(h, .inr (5, [.ref (Ad 0), .ref (At 0), .ref (As 0), .ref (Ac 0), .ref (L 6 0)]))], shW cyI As S, dyW cyI At T, dyW cyI Ad D, [(ao, .inl (cyJ, 1, .inr (.inl (fo))))]] ((0 : Int32)) [[(h, .inr (5, [.ref (Ad 0), .ref (At 0), .ref (As 0), .ref (Ac 0), .ref (L 6 0)]))], shW cyI As (shOut S (dSw T D k)), dyW cyI At (dSw T D k), dyW cyI Ad D, [(ao, .inl (cyJ, 1, .inr (.inl (vp_updL fo 0 ((shRes S (dSw T D k)).toInt64)))))]] := by
  refine wk_H (cc := cL_changesIf) (maxL := 4) (ret := (some .int)) (hh := [(0, 9, 12, 20)]) (by decide) rfl (Nat.le_of_ble_eq_true rfl) ?_
  intro p9 e9 s9 m9 b9 t9 c9 A9 ls hx hb hr hts hown hlocks hml hK hA hD hP hl hS hX htab
  have hK2 := hK.sub [0, 1] (tys' := TY cyI cyO) rfl
  have hl : lv_has ls 4 [(0, .ref (h)), (1, .int (nI (k))), (2, .ref (ao))] := hl
  refine lv_aload_n hx hb dL_changesIf_0 rfl (lv_at hl 2 rfl) ?_
  refine lv_iconst (v := (0 : Int32)) hx hb dL_changesIf_1 (by decide) ?_
  refine lv_aload_n hx hb dL_changesIf_2 rfl (lv_at hl 0 rfl) ?_
  refine lv_iload_n hx hb dL_changesIf_3 rfl (lv_at hl 1 rfl) ?_
  refine gVi (gs := [[(h, .inr (5, [.ref (Ad 0), .ref (At 0), .ref (As 0), .ref (Ac 0), .ref (L 6 0)]))], shW cyI As S, dyW cyI At T, dyW cyI Ad D, [(ao, .inl (cyJ, 1, .inr (.inl (fo))))]]) (As := [.int (nI (k))]) (rest := [.int ((0 : Int32)), .ref (ao)]) ⟨hx, hb, hml, hown, hts⟩ (c_X5_changesIf l G cyI cyO h Ad At As Ac L S T D k hk hn) (cwV 1 hts gL_changesIf_X5_changesIf rfl rfl rfl (by decide +kernel) ⟨Nat.le_of_ble_eq_true rfl, Nat.le_of_ble_eq_true rfl⟩) hK2 hP hD hS hA [0, 1, 2, 3] rfl rfl rfl 0 5 rfl rfl rfl hl.1 rfl (Nat.le_of_ble_eq_true rfl) dL_changesIf_4 ⟨Nat.zero_le _, Nat.zero_le _⟩ (fun H locs hP hD hS => ?_)
  have hP : va_P G vwCl (cat [[(h, .inr (5, [.ref (Ad 0), .ref (At 0), .ref (As 0), .ref (Ac 0), .ref (L 6 0)]))], shW cyI As (shOut S (dSw T D k)), dyW cyI At (dSw T D k), dyW cyI Ad D, [(ao, .inl (cyJ, 1, .inr (.inl (fo))))]]) H := hP
  have hD : va_D A9 (cat [[(h, .inr (5, [.ref (Ad 0), .ref (At 0), .ref (As 0), .ref (Ac 0), .ref (L 6 0)]))], shW cyI As (shOut S (dSw T D k)), dyW cyI At (dSw T D k), dyW cyI Ad D, [(ao, .inl (cyJ, 1, .inr (.inl (fo))))]]) := hD
  refine lv_i2l (v := (shRes S (dSw T D k)).toInt64) hx hb dL_changesIf_7 rfl ?_
  refine va_last (f := fo) hx hb hK hP hD hS 36 2 rfl rfl in01 dL_changesIf_8 (fun H locs hP hD hS => ?_)
  have hP : va_P G vwCl (cat [[(h, .inr (5, [.ref (Ad 0), .ref (At 0), .ref (As 0), .ref (Ac 0), .ref (L 6 0)]))], shW cyI As (shOut S (dSw T D k)), dyW cyI At (dSw T D k), dyW cyI Ad D, [(ao, .inl (cyJ, 1, .inr (.inl (vp_updL fo 0 ((shRes S (dSw T D k)).toInt64)))))]]) H := hP
  have hD : va_D A9 (cat [[(h, .inr (5, [.ref (Ad 0), .ref (At 0), .ref (As 0), .ref (Ac 0), .ref (L 6 0)]))], shW cyI As (shOut S (dSw T D k)), dyW cyI At (dSw T D k), dyW cyI Ad D, [(ao, .inl (cyJ, 1, .inr (.inl (vp_updL fo 0 ((shRes S (dSw T D k)).toInt64)))))]]) := hD
  refine lv_goto (tgt := 15) hx hb dL_changesIf_9 (by decide) ?_
  refine lv_iconst (v := (0 : Int32)) hx hb dL_changesIf_15 (by decide) ?_
  refine W.widen (k := 1) (n := 6) (by decide) (by decide) ?_
  have hP : va_P G vwCl (cat [[(h, .inr (5, [.ref (Ad 0), .ref (At 0), .ref (As 0), .ref (Ac 0), .ref (L 6 0)]))], shW cyI As (shOut S (dSw T D k)), dyW cyI At (dSw T D k), dyW cyI Ad D, [(ao, .inl (cyJ, 1, .inr (.inl (vp_updL fo 0 ((shRes S (dSw T D k)).toInt64)))))]]) H := hP
  have hD : va_D A9 (cat [[(h, .inr (5, [.ref (Ad 0), .ref (At 0), .ref (As 0), .ref (Ac 0), .ref (L 6 0)]))], shW cyI As (shOut S (dSw T D k)), dyW cyI At (dSw T D k), dyW cyI Ad D, [(ao, .inl (cyJ, 1, .inr (.inl (vp_updL fo 0 ((shRes S (dSw T D k)).toInt64)))))]]) := hD
  exact end_i hx hb hr hlocks hK hP hD hS (rfl) dL_changesIf_16
set_option maxHeartbeats 4000000 in
set_option maxRecDepth 100000 in
theorem t_L_changesIf_IO (l : Launch) (G : va_G) (cyI cyO cyJ : ClassId) (h : Nat) (Ad At As Ac : Nat → Nat) (L : Nat → Nat → Nat) (D : DS) (x : Int32) (hx9 : isDig x 0 5 = false) (T : DS) (S : SS) (ao : Nat) (fo : Nat → Int64) (htr : l.stackTraces = false) : CH l G (TY3 cyI cyO cyJ) yL_changesIf wsL_changesIf rh_L_changesIf [.ref (h), .int (x), .ref (ao)] [[(h, .inr (5, [.ref (Ad 0), .ref (At 0), .ref (As 0), .ref (Ac 0), .ref (L 6 0)]))], shW cyI As S, dyW cyI At T, dyW cyI Ad D, [(ao, .inl (cyJ, 1, .inr (.inl (fo))))]] ((1 : Int32)) [[(h, .inr (5, [.ref (Ad 0), .ref (At 0), .ref (As 0), .ref (Ac 0), .ref (L 6 0)]))], shW cyI As S, dyW cyI At T, dyW cyI Ad D, [(ao, .inl (cyJ, 1, .inr (.inl (fo))))]] := by
  refine wk_H (cc := cL_changesIf) (maxL := 4) (ret := (some .int)) (hh := [(0, 9, 12, 20)]) (by decide) rfl (Nat.le_of_ble_eq_true rfl) ?_
  intro p9 e9 s9 m9 b9 t9 c9 A9 ls hx hb hr hts hown hlocks hml hK hA hD hP hl hS hX htab
  have hK2 := hK.sub [0, 1] (tys' := TY cyI cyO) rfl
  have hl : lv_has ls 4 [(0, .ref (h)), (1, .int (x)), (2, .ref (ao))] := hl
  refine lv_aload_n hx hb dL_changesIf_0 rfl (lv_at hl 2 rfl) ?_
  refine lv_iconst (v := (0 : Int32)) hx hb dL_changesIf_1 (by decide) ?_
  refine lv_aload_n hx hb dL_changesIf_2 rfl (lv_at hl 0 rfl) ?_
  refine lv_iload_n hx hb dL_changesIf_3 rfl (lv_at hl 1 rfl) ?_
  refine gXV (gs := [[(h, .inr (5, [.ref (Ad 0), .ref (At 0), .ref (As 0), .ref (Ac 0), .ref (L 6 0)]))], shW cyI As S, dyW cyI At T, dyW cyI Ad D, [(ao, .inl (cyJ, 1, .inr (.inl (fo))))]]) (As := [.int (x)]) (rest := [.int ((0 : Int32)), .ref (ao)]) ⟨hx, hb, hml, hown, hts⟩ (x_X5_changesIf_IO l G cyI cyO h Ad At As Ac L D x hx9 htr) (cwV 1 hts gL_changesIf_X5_changesIf rfl rfl rfl (by decide +kernel) ⟨Nat.le_of_ble_eq_true rfl, Nat.le_of_ble_eq_true rfl⟩) hK2 hX hP hD hS hA [0, 3] rfl rfl 0 5 rfl rfl rfl hl.1 rfl (Nat.le_of_ble_eq_true rfl) dL_changesIf_4 ⟨Nat.le_refl _, Nat.le_refl _⟩ (fun ce9 q9 H locs hP hD hS hce hcv hcl => ?_)
  refine vx_catch (E := xIO) (name := xIO) hown [] ⟨0, 9, 12, 20⟩ [] htab (fun _ h9 => nomatch h9) (by decide) (by decide) (hts (.classLink RL 20 xIO) (by decide +kernel)) (va_Nw.use rfl (hX.2.2.2.1 xIO (by decide))) hce hcv hcl ?_
  refine W.eq (g2 := F0 m9 12 ls [.ref q9]) rfl ?_
  refine lv_astore_n (lv' := [(3, .ref (q9)), (0, .ref (h)), (1, .int (x)), (2, .ref (ao))]) hx hb dL_changesIf_12 rfl hl (by decide) rfl (fun ls hl => ?_)
  refine lv_iconst (v := (1 : Int32)) hx hb dL_changesIf_13 (by decide) ?_
  refine W.widen (k := 1) (n := 6) (by decide) (by decide) ?_
  have hP : va_P G vwCl (cat [[(h, .inr (5, [.ref (Ad 0), .ref (At 0), .ref (As 0), .ref (Ac 0), .ref (L 6 0)]))], shW cyI As S, dyW cyI At T, dyW cyI Ad D, [(ao, .inl (cyJ, 1, .inr (.inl (fo))))]]) H := hP
  have hD : va_D A9 (cat [[(h, .inr (5, [.ref (Ad 0), .ref (At 0), .ref (As 0), .ref (Ac 0), .ref (L 6 0)]))], shW cyI As S, dyW cyI At T, dyW cyI Ad D, [(ao, .inl (cyJ, 1, .inr (.inl (fo))))]]) := hD
  exact end_i hx hb hr hlocks hK hP hD hS (rfl) dL_changesIf_14
abbrev rh_L_append : Room := { frames := 7, cells := 1, slots := 6, locals := 103 }
set_option maxHeartbeats 4000000 in
set_option maxRecDepth 100000 in
theorem n_L_append (l : Launch) (G : va_G) (cyI cyO cyJ : ClassId) (h : Nat) (Ad At As Ac : Nat → Nat) (L : Nat → Nat → Nat) (C : TS) (v : Nat) (h1 : 33 ≤ v) (h9 : v ≤ 126) (hC : C.2 < 60) (ao : Nat) (fo : Nat → Int64) : CH l G (TY3 cyI cyO cyJ) yL_append wsL_append rh_L_append [.ref (h), .int (nI (v)), .ref (ao)] [[(h, .inr (5, [.ref (Ad 0), .ref (At 0), .ref (As 0), .ref (Ac 0), .ref (L 6 0)]))], ctW cyI Ac C, [(ao, .inl (cyJ, 1, .inr (.inl (fo))))]] ((0 : Int32)) [[(h, .inr (5, [.ref (Ad 0), .ref (At 0), .ref (As 0), .ref (Ac 0), .ref (L 6 0)]))], ctW cyI Ac ((upd C.1 C.2 (nI v), C.2 + 1)), [(ao, .inl (cyJ, 1, .inr (.inl (vp_updL fo 0 ((nI (C.2 + 1)).toInt64)))))]] := by
  refine wk_H (cc := cL_append) (maxL := 4) (ret := (some .int)) (hh := [(0, 9, 12, 13), (0, 9, 15, 15)]) (by decide) rfl (Nat.le_of_ble_eq_true rfl) ?_
  intro p9 e9 s9 m9 b9 t9 c9 A9 ls hx hb hr hts hown hlocks hml hK hA hD hP hl hS hX htab
  have hK2 := hK.sub [0, 1] (tys' := TY cyI cyO) rfl
  have hl : lv_has ls 4 [(0, .ref (h)), (1, .int (nI (v))), (2, .ref (ao))] := hl
  refine lv_aload_n hx hb dL_append_0 rfl (lv_at hl 2 rfl) ?_
  refine lv_iconst (v := (0 : Int32)) hx hb dL_append_1 (by decide) ?_
  refine lv_aload_n hx hb dL_append_2 rfl (lv_at hl 0 rfl) ?_
  refine lv_iload_n hx hb dL_append_3 rfl (lv_at hl 1 rfl) ?_
  refine gVi (gs := [[(h, .inr (5, [.ref (Ad 0), .ref (At 0), .ref (As 0), .ref (Ac 0), .ref (L 6 0)]))], ctW cyI Ac C, [(ao, .inl (cyJ, 1, .inr (.inl (fo))))]]) (As := [.int (nI (v))]) (rest := [.int ((0 : Int32)), .ref (ao)]) ⟨hx, hb, hml, hown, hts⟩ (c_X5_append l G cyI cyO h Ad At As Ac L C v h1 h9 hC) (cwV 1 hts gL_append_X5_append rfl rfl rfl (by decide +kernel) ⟨Nat.le_of_ble_eq_true rfl, Nat.le_of_ble_eq_true rfl⟩) hK2 hP hD hS hA [0, 1] rfl rfl rfl 0 5 rfl rfl rfl hl.1 rfl (Nat.le_of_ble_eq_true rfl) dL_append_4 ⟨Nat.zero_le _, Nat.zero_le _⟩ (fun H locs hP hD hS => ?_)
  have hP : va_P G vwCl (cat [[(h, .inr (5, [.ref (Ad 0), .ref (At 0), .ref (As 0), .ref (Ac 0), .ref (L 6 0)]))], ctW cyI Ac ((upd C.1 C.2 (nI v), C.2 + 1)), [(ao, .inl (cyJ, 1, .inr (.inl (fo))))]]) H := hP
  have hD : va_D A9 (cat [[(h, .inr (5, [.ref (Ad 0), .ref (At 0), .ref (As 0), .ref (Ac 0), .ref (L 6 0)]))], ctW cyI Ac ((upd C.1 C.2 (nI v), C.2 + 1)), [(ao, .inl (cyJ, 1, .inr (.inl (fo))))]]) := hD
  refine lv_i2l (v := (nI (C.2 + 1)).toInt64) hx hb dL_append_7 rfl ?_
  refine va_last (f := fo) hx hb hK hP hD hS 4 2 rfl rfl in01 dL_append_8 (fun H locs hP hD hS => ?_)
  have hP : va_P G vwCl (cat [[(h, .inr (5, [.ref (Ad 0), .ref (At 0), .ref (As 0), .ref (Ac 0), .ref (L 6 0)]))], ctW cyI Ac ((upd C.1 C.2 (nI v), C.2 + 1)), [(ao, .inl (cyJ, 1, .inr (.inl (vp_updL fo 0 ((nI (C.2 + 1)).toInt64)))))]]) H := hP
  have hD : va_D A9 (cat [[(h, .inr (5, [.ref (Ad 0), .ref (At 0), .ref (As 0), .ref (Ac 0), .ref (L 6 0)]))], ctW cyI Ac ((upd C.1 C.2 (nI v), C.2 + 1)), [(ao, .inl (cyJ, 1, .inr (.inl (vp_updL fo 0 ((nI (C.2 + 1)).toInt64)))))]]) := hD
  refine lv_goto (tgt := 18) hx hb dL_append_9 (by decide) ?_
  refine lv_iconst (v := (0 : Int32)) hx hb dL_append_18 (by decide) ?_
  refine W.widen (k := 1) (n := 6) (by decide) (by decide) ?_
  have hP : va_P G vwCl (cat [[(h, .inr (5, [.ref (Ad 0), .ref (At 0), .ref (As 0), .ref (Ac 0), .ref (L 6 0)]))], ctW cyI Ac ((upd C.1 C.2 (nI v), C.2 + 1)), [(ao, .inl (cyJ, 1, .inr (.inl (vp_updL fo 0 ((nI (C.2 + 1)).toInt64)))))]]) H := hP
  have hD : va_D A9 (cat [[(h, .inr (5, [.ref (Ad 0), .ref (At 0), .ref (As 0), .ref (Ac 0), .ref (L 6 0)]))], ctW cyI Ac ((upd C.1 C.2 (nI v), C.2 + 1)), [(ao, .inl (cyJ, 1, .inr (.inl (vp_updL fo 0 ((nI (C.2 + 1)).toInt64)))))]]) := hD
  exact end_i hx hb hr hlocks hK hP hD hS (rfl) dL_append_19
set_option maxHeartbeats 4000000 in
set_option maxRecDepth 100000 in
theorem t_L_append_IA (l : Launch) (G : va_G) (cyI cyO cyJ : ClassId) (h : Nat) (Ad At As Ac : Nat → Nat) (L : Nat → Nat → Nat) (C : TS) (hC : C.2 ≤ 60) (x : Int32) (hx9 : isDig x 33 126 = false) (ao : Nat) (fo : Nat → Int64) (htr : l.stackTraces = false) : CH l G (TY3 cyI cyO cyJ) yL_append wsL_append rh_L_append [.ref (h), .int (x), .ref (ao)] [[(h, .inr (5, [.ref (Ad 0), .ref (At 0), .ref (As 0), .ref (Ac 0), .ref (L 6 0)]))], ctW cyI Ac C, [(ao, .inl (cyJ, 1, .inr (.inl (fo))))]] ((1 : Int32)) [[(h, .inr (5, [.ref (Ad 0), .ref (At 0), .ref (As 0), .ref (Ac 0), .ref (L 6 0)]))], ctW cyI Ac C, [(ao, .inl (cyJ, 1, .inr (.inl (fo))))]] := by
  refine wk_H (cc := cL_append) (maxL := 4) (ret := (some .int)) (hh := [(0, 9, 12, 13), (0, 9, 15, 15)]) (by decide) rfl (Nat.le_of_ble_eq_true rfl) ?_
  intro p9 e9 s9 m9 b9 t9 c9 A9 ls hx hb hr hts hown hlocks hml hK hA hD hP hl hS hX htab
  have hK2 := hK.sub [0, 1] (tys' := TY cyI cyO) rfl
  have hl : lv_has ls 4 [(0, .ref (h)), (1, .int (x)), (2, .ref (ao))] := hl
  refine lv_aload_n hx hb dL_append_0 rfl (lv_at hl 2 rfl) ?_
  refine lv_iconst (v := (0 : Int32)) hx hb dL_append_1 (by decide) ?_
  refine lv_aload_n hx hb dL_append_2 rfl (lv_at hl 0 rfl) ?_
  refine lv_iload_n hx hb dL_append_3 rfl (lv_at hl 1 rfl) ?_
  refine gXV (gs := [[(h, .inr (5, [.ref (Ad 0), .ref (At 0), .ref (As 0), .ref (Ac 0), .ref (L 6 0)]))], ctW cyI Ac C, [(ao, .inl (cyJ, 1, .inr (.inl (fo))))]]) (As := [.int (x)]) (rest := [.int ((0 : Int32)), .ref (ao)]) ⟨hx, hb, hml, hown, hts⟩ (x_X5_append_IA l G cyI cyO h Ad At As Ac L C hC x hx9 htr) (cwV 1 hts gL_append_X5_append rfl rfl rfl (by decide +kernel) ⟨Nat.le_of_ble_eq_true rfl, Nat.le_of_ble_eq_true rfl⟩) hK2 hX hP hD hS hA [0, 1] rfl rfl 0 5 rfl rfl rfl hl.1 rfl (Nat.le_of_ble_eq_true rfl) dL_append_4 ⟨Nat.le_refl _, Nat.le_refl _⟩ (fun ce9 q9 H locs hP hD hS hce hcv hcl => ?_)
  refine vx_catch (E := xIA) (name := xIA) hown [] ⟨0, 9, 12, 13⟩ [⟨0, 9, 15, 15⟩] htab (fun _ h9 => nomatch h9) (by decide) (by decide) (hts (.classLink RL 13 xIA) (by decide +kernel)) (va_Nw.use rfl (hX.2.2.2.1 xIA (by decide))) hce hcv hcl ?_
  refine W.eq (g2 := F0 m9 12 ls [.ref q9]) rfl ?_
  refine lv_astore_n (lv' := [(3, .ref (q9)), (0, .ref (h)), (1, .int (x)), (2, .ref (ao))]) hx hb dL_append_12 rfl hl (by decide) rfl (fun ls hl => ?_)
  refine lv_iconst (v := (1 : Int32)) hx hb dL_append_13 (by decide) ?_
  refine W.widen (k := 1) (n := 6) (by decide) (by decide) ?_
  have hP : va_P G vwCl (cat [[(h, .inr (5, [.ref (Ad 0), .ref (At 0), .ref (As 0), .ref (Ac 0), .ref (L 6 0)]))], ctW cyI Ac C, [(ao, .inl (cyJ, 1, .inr (.inl (fo))))]]) H := hP
  have hD : va_D A9 (cat [[(h, .inr (5, [.ref (Ad 0), .ref (At 0), .ref (As 0), .ref (Ac 0), .ref (L 6 0)]))], ctW cyI Ac C, [(ao, .inl (cyJ, 1, .inr (.inl (fo))))]]) := hD
  exact end_i hx hb hr hlocks hK hP hD hS (rfl) dL_append_14
set_option maxHeartbeats 4000000 in
set_option maxRecDepth 100000 in
theorem t_L_append_IS (l : Launch) (G : va_G) (cyI cyO cyJ : ClassId) (h : Nat) (Ad At As Ac : Nat → Nat) (L : Nat → Nat → Nat) (C : TS) (v : Nat) (h1 : 33 ≤ v) (h9 : v ≤ 126) (hC : C.2 = 60) (ao : Nat) (fo : Nat → Int64) (htr : l.stackTraces = false) : CH l G (TY3 cyI cyO cyJ) yL_append wsL_append rh_L_append [.ref (h), .int (nI (v)), .ref (ao)] [[(h, .inr (5, [.ref (Ad 0), .ref (At 0), .ref (As 0), .ref (Ac 0), .ref (L 6 0)]))], ctW cyI Ac C, [(ao, .inl (cyJ, 1, .inr (.inl (fo))))]] ((2 : Int32)) [[(h, .inr (5, [.ref (Ad 0), .ref (At 0), .ref (As 0), .ref (Ac 0), .ref (L 6 0)]))], ctW cyI Ac C, [(ao, .inl (cyJ, 1, .inr (.inl (fo))))]] := by
  refine wk_H (cc := cL_append) (maxL := 4) (ret := (some .int)) (hh := [(0, 9, 12, 13), (0, 9, 15, 15)]) (by decide) rfl (Nat.le_of_ble_eq_true rfl) ?_
  intro p9 e9 s9 m9 b9 t9 c9 A9 ls hx hb hr hts hown hlocks hml hK hA hD hP hl hS hX htab
  have hK2 := hK.sub [0, 1] (tys' := TY cyI cyO) rfl
  have hl : lv_has ls 4 [(0, .ref (h)), (1, .int (nI (v))), (2, .ref (ao))] := hl
  refine lv_aload_n hx hb dL_append_0 rfl (lv_at hl 2 rfl) ?_
  refine lv_iconst (v := (0 : Int32)) hx hb dL_append_1 (by decide) ?_
  refine lv_aload_n hx hb dL_append_2 rfl (lv_at hl 0 rfl) ?_
  refine lv_iload_n hx hb dL_append_3 rfl (lv_at hl 1 rfl) ?_
  refine gXV (gs := [[(h, .inr (5, [.ref (Ad 0), .ref (At 0), .ref (As 0), .ref (Ac 0), .ref (L 6 0)]))], ctW cyI Ac C, [(ao, .inl (cyJ, 1, .inr (.inl (fo))))]]) (As := [.int (nI (v))]) (rest := [.int ((0 : Int32)), .ref (ao)]) ⟨hx, hb, hml, hown, hts⟩ (x_X5_append_IS l G cyI cyO h Ad At As Ac L C v h1 h9 hC htr) (cwV 1 hts gL_append_X5_append rfl rfl rfl (by decide +kernel) ⟨Nat.le_of_ble_eq_true rfl, Nat.le_of_ble_eq_true rfl⟩) hK2 hX hP hD hS hA [0, 1] rfl rfl 0 5 rfl rfl rfl hl.1 rfl (Nat.le_of_ble_eq_true rfl) dL_append_4 ⟨Nat.le_refl _, Nat.le_refl _⟩ (fun ce9 q9 H locs hP hD hS hce hcv hcl => ?_)
  refine vx_catch (E := xIS) (name := xIS) hown [⟨0, 9, 12, 13⟩] ⟨0, 9, 15, 15⟩ [] htab (fun z h9 => by cases List.mem_singleton.mp h9; exact Or.inr ⟨by decide, xIA, hts (.classLink RL 13 xIA) (by decide +kernel), hX.2.2.2.2.2 (xIS, xIA) (by decide)⟩) (by decide) (by decide) (hts (.classLink RL 15 xIS) (by decide +kernel)) (va_Nw.use rfl (hX.2.2.2.1 xIS (by decide))) hce hcv hcl ?_
  refine W.eq (g2 := F0 m9 15 ls [.ref q9]) rfl ?_
  refine lv_astore_n (lv' := [(3, .ref (q9)), (0, .ref (h)), (1, .int (nI (v))), (2, .ref (ao))]) hx hb dL_append_15 rfl hl (by decide) rfl (fun ls hl => ?_)
  refine lv_iconst (v := (2 : Int32)) hx hb dL_append_16 (by decide) ?_
  refine W.widen (k := 1) (n := 6) (by decide) (by decide) ?_
  have hP : va_P G vwCl (cat [[(h, .inr (5, [.ref (Ad 0), .ref (At 0), .ref (As 0), .ref (Ac 0), .ref (L 6 0)]))], ctW cyI Ac C, [(ao, .inl (cyJ, 1, .inr (.inl (fo))))]]) H := hP
  have hD : va_D A9 (cat [[(h, .inr (5, [.ref (Ad 0), .ref (At 0), .ref (As 0), .ref (Ac 0), .ref (L 6 0)]))], ctW cyI Ac C, [(ao, .inl (cyJ, 1, .inr (.inl (fo))))]]) := hD
  exact end_i hx hb hr hlocks hK hP hD hS (rfl) dL_append_17
abbrev rh_L_run : Room := { frames := 7, cells := 1, slots := 6, locals := 161 }
set_option maxHeartbeats 4000000 in
set_option maxRecDepth 100000 in
theorem n_L_run (l : Launch) (G : va_G) (cyI cyO cyJ : ClassId) (h : Nat) (Ad At As Ac : Nat → Nat) (L : Nat → Nat → Nat) (S : SS) (D : DS) (C : TS) (V : HS) (hn : D.2.2.2.2.2.1 ≤ 20) (hC : C.2 ≤ 60) (hV : V.1 ≤ 6) (hm : ctFull C = true) (qS : SS) (qD : DS) (qd : Nat) (qu : Int32) (qv : Nat) (qg : Bool) (hq : crAll C S D (C.2 + 1) = (qS, qD, qd, qu, qv, qg)) (ao : Nat) (fo : Nat → Int64) : CH l G (TY3 cyI cyO cyJ) yL_run wsL_run rh_L_run [.ref (h), .ref (ao)] [[(h, .inr (5, [.ref (Ad 0), .ref (At 0), .ref (As 0), .ref (Ac 0), .ref (L 6 0)]))], shW cyI As S, dyW cyI Ad D, ctW cyI Ac C, hiW cyI cyO L V, [(ao, .inl (cyJ, 1, .inr (.inl (fo))))]] ((0 : Int32)) [[(h, .inr (5, [.ref (Ad 0), .ref (At 0), .ref (As 0), .ref (Ac 0), .ref (L 6 0)]))], shW cyI As qS, dyW cyI Ad qD, ctW cyI Ac ((C.1, 0)), hiW cyI cyO (svM L V) (svS V D), [(ao, .inl (cyJ, 1, .inr (.inl (vp_updL fo 0 ((nI (qd)).toInt64)))))]] := by
  refine wk_H (cc := cL_run) (maxL := 3) (ret := (some .int)) (hh := [(0, 8, 11, 13)]) (by decide) rfl (Nat.le_of_ble_eq_true rfl) ?_
  intro p9 e9 s9 m9 b9 t9 c9 A9 ls hx hb hr hts hown hlocks hml hK hA hD hP hl hS hX htab
  have hK2 := hK.sub [0, 1] (tys' := TY cyI cyO) rfl
  have hl : lv_has ls 3 [(0, .ref (h)), (1, .ref (ao))] := hl
  refine lv_aload_n hx hb dL_run_0 rfl (lv_at hl 1 rfl) ?_
  refine lv_iconst (v := (0 : Int32)) hx hb dL_run_1 (by decide) ?_
  refine lv_aload_n hx hb dL_run_2 rfl (lv_at hl 0 rfl) ?_
  refine gVi (gs := [[(h, .inr (5, [.ref (Ad 0), .ref (At 0), .ref (As 0), .ref (Ac 0), .ref (L 6 0)]))], shW cyI As S, dyW cyI Ad D, ctW cyI Ac C, hiW cyI cyO L V, [(ao, .inl (cyJ, 1, .inr (.inl (fo))))]]) (As := []) (rest := [.int ((0 : Int32)), .ref (ao)]) ⟨hx, hb, hml, hown, hts⟩ (c_X5_run l G cyI cyO h Ad At As Ac L S D C V hn hC hV hm qS qD qd qu qv qg hq) (cwV 0 hts gL_run_X5_run rfl rfl rfl (by decide +kernel) ⟨Nat.le_of_ble_eq_true rfl, Nat.le_of_ble_eq_true rfl⟩) hK2 hP hD hS hA [0, 1, 2, 3, 4] rfl rfl rfl 0 5 rfl rfl rfl hl.1 rfl (Nat.le_of_ble_eq_true rfl) dL_run_3 ⟨Nat.zero_le _, Nat.zero_le _⟩ (fun H locs hP hD hS => ?_)
  have hP : va_P G vwCl (cat [[(h, .inr (5, [.ref (Ad 0), .ref (At 0), .ref (As 0), .ref (Ac 0), .ref (L 6 0)]))], shW cyI As qS, dyW cyI Ad qD, ctW cyI Ac ((C.1, 0)), hiW cyI cyO (svM L V) (svS V D), [(ao, .inl (cyJ, 1, .inr (.inl (fo))))]]) H := hP
  have hD : va_D A9 (cat [[(h, .inr (5, [.ref (Ad 0), .ref (At 0), .ref (As 0), .ref (Ac 0), .ref (L 6 0)]))], shW cyI As qS, dyW cyI Ad qD, ctW cyI Ac ((C.1, 0)), hiW cyI cyO (svM L V) (svS V D), [(ao, .inl (cyJ, 1, .inr (.inl (fo))))]]) := hD
  refine lv_i2l (v := (nI (qd)).toInt64) hx hb dL_run_6 rfl ?_
  refine va_last (f := fo) hx hb hK hP hD hS 96 2 rfl rfl in01 dL_run_7 (fun H locs hP hD hS => ?_)
  have hP : va_P G vwCl (cat [[(h, .inr (5, [.ref (Ad 0), .ref (At 0), .ref (As 0), .ref (Ac 0), .ref (L 6 0)]))], shW cyI As qS, dyW cyI Ad qD, ctW cyI Ac ((C.1, 0)), hiW cyI cyO (svM L V) (svS V D), [(ao, .inl (cyJ, 1, .inr (.inl (vp_updL fo 0 ((nI (qd)).toInt64)))))]]) H := hP
  have hD : va_D A9 (cat [[(h, .inr (5, [.ref (Ad 0), .ref (At 0), .ref (As 0), .ref (Ac 0), .ref (L 6 0)]))], shW cyI As qS, dyW cyI Ad qD, ctW cyI Ac ((C.1, 0)), hiW cyI cyO (svM L V) (svS V D), [(ao, .inl (cyJ, 1, .inr (.inl (vp_updL fo 0 ((nI (qd)).toInt64)))))]]) := hD
  refine lv_goto (tgt := 14) hx hb dL_run_8 (by decide) ?_
  refine lv_iconst (v := (0 : Int32)) hx hb dL_run_14 (by decide) ?_
  refine W.widen (k := 1) (n := 6) (by decide) (by decide) ?_
  have hP : va_P G vwCl (cat [[(h, .inr (5, [.ref (Ad 0), .ref (At 0), .ref (As 0), .ref (Ac 0), .ref (L 6 0)]))], shW cyI As qS, dyW cyI Ad qD, ctW cyI Ac ((C.1, 0)), hiW cyI cyO (svM L V) (svS V D), [(ao, .inl (cyJ, 1, .inr (.inl (vp_updL fo 0 ((nI (qd)).toInt64)))))]]) H := hP
  have hD : va_D A9 (cat [[(h, .inr (5, [.ref (Ad 0), .ref (At 0), .ref (As 0), .ref (Ac 0), .ref (L 6 0)]))], shW cyI As qS, dyW cyI Ad qD, ctW cyI Ac ((C.1, 0)), hiW cyI cyO (svM L V) (svS V D), [(ao, .inl (cyJ, 1, .inr (.inl (vp_updL fo 0 ((nI (qd)).toInt64)))))]]) := hD
  exact end_i hx hb hr hlocks hK hP hD hS (rfl) dL_run_15
set_option maxHeartbeats 4000000 in
set_option maxRecDepth 100000 in
theorem t_L_run_IA (l : Launch) (G : va_G) (cyI cyO cyJ : ClassId) (h : Nat) (Ad At As Ac : Nat → Nat) (L : Nat → Nat → Nat) (C : TS) (hC : C.2 ≤ 60) (hm : ctFull C = false) (D : DS) (S : SS) (V : HS) (ao : Nat) (fo : Nat → Int64) (htr : l.stackTraces = false) : CH l G (TY3 cyI cyO cyJ) yL_run wsL_run rh_L_run [.ref (h), .ref (ao)] [[(h, .inr (5, [.ref (Ad 0), .ref (At 0), .ref (As 0), .ref (Ac 0), .ref (L 6 0)]))], shW cyI As S, dyW cyI Ad D, ctW cyI Ac C, hiW cyI cyO L V, [(ao, .inl (cyJ, 1, .inr (.inl (fo))))]] ((1 : Int32)) [[(h, .inr (5, [.ref (Ad 0), .ref (At 0), .ref (As 0), .ref (Ac 0), .ref (L 6 0)]))], shW cyI As S, dyW cyI Ad D, ctW cyI Ac C, hiW cyI cyO L V, [(ao, .inl (cyJ, 1, .inr (.inl (fo))))]] := by
  refine wk_H (cc := cL_run) (maxL := 3) (ret := (some .int)) (hh := [(0, 8, 11, 13)]) (by decide) rfl (Nat.le_of_ble_eq_true rfl) ?_
  intro p9 e9 s9 m9 b9 t9 c9 A9 ls hx hb hr hts hown hlocks hml hK hA hD hP hl hS hX htab
  have hK2 := hK.sub [0, 1] (tys' := TY cyI cyO) rfl
  have hl : lv_has ls 3 [(0, .ref (h)), (1, .ref (ao))] := hl
  refine lv_aload_n hx hb dL_run_0 rfl (lv_at hl 1 rfl) ?_
  refine lv_iconst (v := (0 : Int32)) hx hb dL_run_1 (by decide) ?_
  refine lv_aload_n hx hb dL_run_2 rfl (lv_at hl 0 rfl) ?_
  refine gXV (gs := [[(h, .inr (5, [.ref (Ad 0), .ref (At 0), .ref (As 0), .ref (Ac 0), .ref (L 6 0)]))], shW cyI As S, dyW cyI Ad D, ctW cyI Ac C, hiW cyI cyO L V, [(ao, .inl (cyJ, 1, .inr (.inl (fo))))]]) (As := []) (rest := [.int ((0 : Int32)), .ref (ao)]) ⟨hx, hb, hml, hown, hts⟩ (x_X5_run_IA l G cyI cyO h Ad At As Ac L C hC hm htr) (cwV 0 hts gL_run_X5_run rfl rfl rfl (by decide +kernel) ⟨Nat.le_of_ble_eq_true rfl, Nat.le_of_ble_eq_true rfl⟩) hK2 hX hP hD hS hA [0, 3] rfl rfl 0 5 rfl rfl rfl hl.1 rfl (Nat.le_of_ble_eq_true rfl) dL_run_3 ⟨Nat.le_refl _, Nat.le_refl _⟩ (fun ce9 q9 H locs hP hD hS hce hcv hcl => ?_)
  refine vx_catch (E := xIA) (name := xIA) hown [] ⟨0, 8, 11, 13⟩ [] htab (fun _ h9 => nomatch h9) (by decide) (by decide) (hts (.classLink RL 13 xIA) (by decide +kernel)) (va_Nw.use rfl (hX.2.2.2.1 xIA (by decide))) hce hcv hcl ?_
  refine W.eq (g2 := F0 m9 11 ls [.ref q9]) rfl ?_
  refine lv_astore_n (lv' := [(2, .ref (q9)), (0, .ref (h)), (1, .ref (ao))]) hx hb dL_run_11 rfl hl (by decide) rfl (fun ls hl => ?_)
  refine lv_iconst (v := (1 : Int32)) hx hb dL_run_12 (by decide) ?_
  refine W.widen (k := 1) (n := 6) (by decide) (by decide) ?_
  have hP : va_P G vwCl (cat [[(h, .inr (5, [.ref (Ad 0), .ref (At 0), .ref (As 0), .ref (Ac 0), .ref (L 6 0)]))], shW cyI As S, dyW cyI Ad D, ctW cyI Ac C, hiW cyI cyO L V, [(ao, .inl (cyJ, 1, .inr (.inl (fo))))]]) H := hP
  have hD : va_D A9 (cat [[(h, .inr (5, [.ref (Ad 0), .ref (At 0), .ref (As 0), .ref (Ac 0), .ref (L 6 0)]))], shW cyI As S, dyW cyI Ad D, ctW cyI Ac C, hiW cyI cyO L V, [(ao, .inl (cyJ, 1, .inr (.inl (fo))))]]) := hD
  exact end_i hx hb hr hlocks hK hP hD hS (rfl) dL_run_13
abbrev rh_L_undo : Room := { frames := 7, cells := 1, slots := 6, locals := 106 }
set_option maxHeartbeats 4000000 in
set_option maxRecDepth 100000 in
theorem n_L_undo (l : Launch) (G : va_G) (cyI cyO cyJ : ClassId) (h : Nat) (Ad At As Ac : Nat → Nat) (L : Nat → Nat → Nat) (D : DS) (V : HS) (hV : V.1 ≤ 6) (h1 : 1 ≤ V.1) (ao : Nat) (fo : Nat → Int64) : CH l G (TY3 cyI cyO cyJ) yL_undo wsL_undo rh_L_undo [.ref (h), .ref (ao)] [[(h, .inr (5, [.ref (Ad 0), .ref (At 0), .ref (As 0), .ref (Ac 0), .ref (L 6 0)]))], dyW cyI Ad D, hiW cyI cyO L V, [(ao, .inl (cyJ, 1, .inr (.inl (fo))))]] ((0 : Int32)) [[(h, .inr (5, [.ref (Ad 0), .ref (At 0), .ref (As 0), .ref (Ac 0), .ref (L 6 0)]))], dyW cyI Ad (dCopy D (V.2 (V.1 - 1))), hiW cyI cyO L ((V.1 - 1, V.2)), [(ao, .inl (cyJ, 1, .inr (.inl (vp_updL fo 0 ((nI (V.1 - 1)).toInt64)))))]] := by
  refine wk_H (cc := cL_undo) (maxL := 3) (ret := (some .int)) (hh := [(0, 8, 11, 15)]) (by decide) rfl (Nat.le_of_ble_eq_true rfl) ?_
  intro p9 e9 s9 m9 b9 t9 c9 A9 ls hx hb hr hts hown hlocks hml hK hA hD hP hl hS hX htab
  have hK2 := hK.sub [0, 1] (tys' := TY cyI cyO) rfl
  have hl : lv_has ls 3 [(0, .ref (h)), (1, .ref (ao))] := hl
  refine lv_aload_n hx hb dL_undo_0 rfl (lv_at hl 1 rfl) ?_
  refine lv_iconst (v := (0 : Int32)) hx hb dL_undo_1 (by decide) ?_
  refine lv_aload_n hx hb dL_undo_2 rfl (lv_at hl 0 rfl) ?_
  refine gVi (gs := [[(h, .inr (5, [.ref (Ad 0), .ref (At 0), .ref (As 0), .ref (Ac 0), .ref (L 6 0)]))], dyW cyI Ad D, hiW cyI cyO L V, [(ao, .inl (cyJ, 1, .inr (.inl (fo))))]]) (As := []) (rest := [.int ((0 : Int32)), .ref (ao)]) ⟨hx, hb, hml, hown, hts⟩ (c_X5_undo l G cyI cyO h Ad At As Ac L D V hV h1) (cwV 0 hts gL_undo_X5_undo rfl rfl rfl (by decide +kernel) ⟨Nat.le_of_ble_eq_true rfl, Nat.le_of_ble_eq_true rfl⟩) hK2 hP hD hS hA [0, 1, 2] rfl rfl rfl 0 5 rfl rfl rfl hl.1 rfl (Nat.le_of_ble_eq_true rfl) dL_undo_3 ⟨Nat.zero_le _, Nat.zero_le _⟩ (fun H locs hP hD hS => ?_)
  have hP : va_P G vwCl (cat [[(h, .inr (5, [.ref (Ad 0), .ref (At 0), .ref (As 0), .ref (Ac 0), .ref (L 6 0)]))], dyW cyI Ad (dCopy D (V.2 (V.1 - 1))), hiW cyI cyO L ((V.1 - 1, V.2)), [(ao, .inl (cyJ, 1, .inr (.inl (fo))))]]) H := hP
  have hD : va_D A9 (cat [[(h, .inr (5, [.ref (Ad 0), .ref (At 0), .ref (As 0), .ref (Ac 0), .ref (L 6 0)]))], dyW cyI Ad (dCopy D (V.2 (V.1 - 1))), hiW cyI cyO L ((V.1 - 1, V.2)), [(ao, .inl (cyJ, 1, .inr (.inl (fo))))]]) := hD
  refine lv_i2l (v := (nI (V.1 - 1)).toInt64) hx hb dL_undo_6 rfl ?_
  refine va_last (f := fo) hx hb hK hP hD hS 80 2 rfl rfl in01 dL_undo_7 (fun H locs hP hD hS => ?_)
  have hP : va_P G vwCl (cat [[(h, .inr (5, [.ref (Ad 0), .ref (At 0), .ref (As 0), .ref (Ac 0), .ref (L 6 0)]))], dyW cyI Ad (dCopy D (V.2 (V.1 - 1))), hiW cyI cyO L ((V.1 - 1, V.2)), [(ao, .inl (cyJ, 1, .inr (.inl (vp_updL fo 0 ((nI (V.1 - 1)).toInt64)))))]]) H := hP
  have hD : va_D A9 (cat [[(h, .inr (5, [.ref (Ad 0), .ref (At 0), .ref (As 0), .ref (Ac 0), .ref (L 6 0)]))], dyW cyI Ad (dCopy D (V.2 (V.1 - 1))), hiW cyI cyO L ((V.1 - 1, V.2)), [(ao, .inl (cyJ, 1, .inr (.inl (vp_updL fo 0 ((nI (V.1 - 1)).toInt64)))))]]) := hD
  refine lv_goto (tgt := 14) hx hb dL_undo_8 (by decide) ?_
  refine lv_iconst (v := (0 : Int32)) hx hb dL_undo_14 (by decide) ?_
  refine W.widen (k := 1) (n := 6) (by decide) (by decide) ?_
  have hP : va_P G vwCl (cat [[(h, .inr (5, [.ref (Ad 0), .ref (At 0), .ref (As 0), .ref (Ac 0), .ref (L 6 0)]))], dyW cyI Ad (dCopy D (V.2 (V.1 - 1))), hiW cyI cyO L ((V.1 - 1, V.2)), [(ao, .inl (cyJ, 1, .inr (.inl (vp_updL fo 0 ((nI (V.1 - 1)).toInt64)))))]]) H := hP
  have hD : va_D A9 (cat [[(h, .inr (5, [.ref (Ad 0), .ref (At 0), .ref (As 0), .ref (Ac 0), .ref (L 6 0)]))], dyW cyI Ad (dCopy D (V.2 (V.1 - 1))), hiW cyI cyO L ((V.1 - 1, V.2)), [(ao, .inl (cyJ, 1, .inr (.inl (vp_updL fo 0 ((nI (V.1 - 1)).toInt64)))))]]) := hD
  exact end_i hx hb hr hlocks hK hP hD hS (rfl) dL_undo_15
set_option maxHeartbeats 4000000 in
set_option maxRecDepth 100000 in
theorem t_L_undo_IS (l : Launch) (G : va_G) (cyI cyO cyJ : ClassId) (h : Nat) (Ad At As Ac : Nat → Nat) (L : Nat → Nat → Nat) (V : HS) (hV : V.1 = 0) (D : DS) (ao : Nat) (fo : Nat → Int64) (htr : l.stackTraces = false) : CH l G (TY3 cyI cyO cyJ) yL_undo wsL_undo rh_L_undo [.ref (h), .ref (ao)] [[(h, .inr (5, [.ref (Ad 0), .ref (At 0), .ref (As 0), .ref (Ac 0), .ref (L 6 0)]))], dyW cyI Ad D, hiW cyI cyO L V, [(ao, .inl (cyJ, 1, .inr (.inl (fo))))]] ((1 : Int32)) [[(h, .inr (5, [.ref (Ad 0), .ref (At 0), .ref (As 0), .ref (Ac 0), .ref (L 6 0)]))], dyW cyI Ad D, hiW cyI cyO L V, [(ao, .inl (cyJ, 1, .inr (.inl (fo))))]] := by
  refine wk_H (cc := cL_undo) (maxL := 3) (ret := (some .int)) (hh := [(0, 8, 11, 15)]) (by decide) rfl (Nat.le_of_ble_eq_true rfl) ?_
  intro p9 e9 s9 m9 b9 t9 c9 A9 ls hx hb hr hts hown hlocks hml hK hA hD hP hl hS hX htab
  have hK2 := hK.sub [0, 1] (tys' := TY cyI cyO) rfl
  have hl : lv_has ls 3 [(0, .ref (h)), (1, .ref (ao))] := hl
  refine lv_aload_n hx hb dL_undo_0 rfl (lv_at hl 1 rfl) ?_
  refine lv_iconst (v := (0 : Int32)) hx hb dL_undo_1 (by decide) ?_
  refine lv_aload_n hx hb dL_undo_2 rfl (lv_at hl 0 rfl) ?_
  refine gXV (gs := [[(h, .inr (5, [.ref (Ad 0), .ref (At 0), .ref (As 0), .ref (Ac 0), .ref (L 6 0)]))], dyW cyI Ad D, hiW cyI cyO L V, [(ao, .inl (cyJ, 1, .inr (.inl (fo))))]]) (As := []) (rest := [.int ((0 : Int32)), .ref (ao)]) ⟨hx, hb, hml, hown, hts⟩ (x_X5_undo_IS l G cyI cyO h Ad At As Ac L V hV htr) (cwV 0 hts gL_undo_X5_undo rfl rfl rfl (by decide +kernel) ⟨Nat.le_of_ble_eq_true rfl, Nat.le_of_ble_eq_true rfl⟩) hK2 hX hP hD hS hA [0, 2] rfl rfl 0 5 rfl rfl rfl hl.1 rfl (Nat.le_of_ble_eq_true rfl) dL_undo_3 ⟨Nat.le_refl _, Nat.le_refl _⟩ (fun ce9 q9 H locs hP hD hS hce hcv hcl => ?_)
  refine vx_catch (E := xIS) (name := xIS) hown [] ⟨0, 8, 11, 15⟩ [] htab (fun _ h9 => nomatch h9) (by decide) (by decide) (hts (.classLink RL 15 xIS) (by decide +kernel)) (va_Nw.use rfl (hX.2.2.2.1 xIS (by decide))) hce hcv hcl ?_
  refine W.eq (g2 := F0 m9 11 ls [.ref q9]) rfl ?_
  refine lv_astore_n (lv' := [(2, .ref (q9)), (0, .ref (h)), (1, .ref (ao))]) hx hb dL_undo_11 rfl hl (by decide) rfl (fun ls hl => ?_)
  refine lv_iconst (v := (1 : Int32)) hx hb dL_undo_12 (by decide) ?_
  refine W.widen (k := 1) (n := 6) (by decide) (by decide) ?_
  have hP : va_P G vwCl (cat [[(h, .inr (5, [.ref (Ad 0), .ref (At 0), .ref (As 0), .ref (Ac 0), .ref (L 6 0)]))], dyW cyI Ad D, hiW cyI cyO L V, [(ao, .inl (cyJ, 1, .inr (.inl (fo))))]]) H := hP
  have hD : va_D A9 (cat [[(h, .inr (5, [.ref (Ad 0), .ref (At 0), .ref (As 0), .ref (Ac 0), .ref (L 6 0)]))], dyW cyI Ad D, hiW cyI cyO L V, [(ao, .inl (cyJ, 1, .inr (.inl (fo))))]]) := hD
  exact end_i hx hb hr hlocks hK hP hD hS (rfl) dL_undo_13

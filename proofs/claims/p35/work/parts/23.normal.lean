/-! ===== DoorstepRounds: what can throw, when it does not ===== -/
def dPts (D : DS) (k : Nat) (v : Int32) : DS := (upd D.1 k v, D.2)
theorem dHas_in {n k : Nat} (hk : k < n) (hn : n ≤ 20) : dHas n (nI k) = true := by
  have h1 : ¬ nI k < 0 := nI_pos (by omega)
  have h2 : ¬ nI n ≤ nI k := nI_ge hk (by omega)
  simp [dHas, h1, h2]
section SV
variable {p : Program} {l : Launch} {e : Env} {R : Room} {s : State} {m : MethodId} {args : Array Value} {below : List Frame} {meth : Method} {c : Code} {H : Heap} {locs : List Loc} {cells slots : Nat} {Q : State → Prop}
variable {pc : Nat} {ls : Array Slot} {st0 rest As fs : List Value} {A0 : Nat → Prop} {D : va_G} {tys : List (ClassId × FieldType)} {y : MethodName} {ws Ts : List Cond} {rm : Room} {gs gi go : List va_W} {cc bytes : ByteArray} {maxL nL n index : Nat} {ret : Option FieldType} {own : String}
theorem gSv (fix : CallFix p m c cc nL s args Ts own) (hM : CV l D tys y ws rm As gi go) (cw : CallB R s args own index y bytes maxL ret ws rm 0 0 n ∧ (Cond.static y).before args s = true)
    (hK : va_K D vwCl tys s) (hP : va_P D vwCl (cat gs) H) (hD : va_D A0 (cat gs)) (hS : va_S A0 s.heap H locs) (hA : ∀ q, s.heap.size ≤ q → A0 q)
    (is : List Nat) (hi : is.map (fun i => gs[i]?) = gi.map some) (hn : va_nd is = true) (hlen : gi.length = go.length)
    (hAs : As.length = n) (hsize : ls.size = nL) (hst : st0 = As.reverse ++ rest) (hW : (rest.map fun v => v.category).sum ≤ 8) (hdg : decode cc pc = .ok (.invokestatic index, 3)) (hf : cells ≤ R.cells ∧ slots ≤ R.slots)
    (kk : ∀ (H1 : Heap) (locs1 : List Loc), va_P D vwCl (cat (sets gs is go)) H1 → va_D A0 (cat (sets gs is go)) → va_S A0 s.heap H1 locs1 → W p l e R s m args below meth c H1 locs1 cells slots Q (F0 m (pc + 3) ls rest)) :
    W p l e R s m args below meth c H locs cells slots Q (F0 m pc ls st0) := by
  have hPc := seg_P hP hn hi
  have hDc := seg_D hD hn hi
  have hFc := seg_F hD hS hA hn hi
  refine va_callv (va_runS (As := As) (rest := rest) fix (hM H.size) cw (gV_pre hPc hK hDc) rfl hAs hsize hst (lv_room hW) hdg hf) hS (fun q _ h => hFc q h) hFc (fun u t H1 locs1 ht hvm hw hB hz hk hS1 => ?_)
  obtain ⟨hP1, hK1, hD1⟩ := hB
  rw [ht] at hP1
  obtain ⟨hP2, hD2⟩ := seg_join hP hD hn hi hlen hk hFc hP1 hD1
  exact kk H1 locs1 hP2 hD2 hS1
end SV

abbrev rm_X5_checkDoorstep : Room := { frames := 1, cells := 0, slots := 0, locals := 21 }
set_option maxHeartbeats 4000000 in
set_option maxRecDepth 100000 in
theorem c_X5_checkDoorstep (l : Launch) (G : va_G) (cyI cyO : ClassId) (h : Nat) (Ad At As Ac : Nat → Nat) (L : Nat → Nat → Nat) (D : DS) (hn : D.2.2.2.2.2.1 ≤ 20) (k : Nat) (hk : k < D.2.2.2.2.2.1) : CV l G (TY cyI cyO) yX5_checkDoorstep wsX5_checkDoorstep rm_X5_checkDoorstep [.ref (h), .int (nI (k))] [[(h, .inr (5, [.ref (Ad 0), .ref (At 0), .ref (As 0), .ref (Ac 0), .ref (L 6 0)]))], dyW cyI Ad D] [[(h, .inr (5, [.ref (Ad 0), .ref (At 0), .ref (As 0), .ref (Ac 0), .ref (L 6 0)]))], dyW cyI Ad D] := by
  refine wk_V (cc := cX5_checkDoorstep) (maxL := 2) (ret := none) (by decide) rfl (Nat.le_of_ble_eq_true rfl) ?_
  intro p9 e9 s9 m9 b9 t9 c9 A9 ls hx hb hr hts hown hlocks hml hK hA hD hP hl hS hnm
  have hl : lv_has ls 2 [(0, .ref (h)), (1, .int (nI (k)))] := hl
  have hinX5 : ∀ w ∈ wsX50, w ∈ wsX5_checkDoorstep := by decide +kernel
  have hf10 := hts (.fieldLink RX5 10 "DoorstepRounds" "dairy" "LDoorstepRounds$Dairy;") (by decide +kernel)
  refine lv_aload_n hx hb dX5_checkDoorstep_0 rfl (lv_at hl 0 rfl) ?_
  refine va_get (v := .ref (Ad 0)) (C := RX5) (T := TX5) (N := 5) hx hb hts hinX5 hown hK hP 0 rfl rfl 0 (by decide) hf10 (fun _ h9 => h9) rfl dX5_checkDoorstep_1 ?_
  refine lv_iload_n hx hb dX5_checkDoorstep_4 rfl (lv_at hl 1 rfl) ?_
  refine gVi (gs := [[(h, .inr (5, [.ref (Ad 0), .ref (At 0), .ref (As 0), .ref (Ac 0), .ref (L 6 0)]))], dyW cyI Ad D]) (As := [.int (nI (k))]) (rest := []) ⟨hx, hb, hml, hown, hts⟩ (c_X1_hasDoorstep l G cyI cyO Ad D (nI (k))) (cwV 1 hts gX5_checkDoorstep_X1_hasDoorstep rfl rfl rfl (by decide +kernel) ⟨Nat.le_of_ble_eq_true rfl, Nat.le_of_ble_eq_true rfl⟩) hK hP hD hS hA [1] rfl rfl rfl 0 1 rfl rfl rfl hl.1 rfl (Nat.le_of_ble_eq_true rfl) dX5_checkDoorstep_5 ⟨Nat.le_refl _, Nat.le_refl _⟩ (fun H locs hP hD hS => ?_)
  have hP : va_P G vwCl (cat [[(h, .inr (5, [.ref (Ad 0), .ref (At 0), .ref (As 0), .ref (Ac 0), .ref (L 6 0)]))], dyW cyI Ad D]) H := hP
  have hD : va_D A9 (cat [[(h, .inr (5, [.ref (Ad 0), .ref (At 0), .ref (As 0), .ref (Ac 0), .ref (L 6 0)]))], dyW cyI Ad D]) := hD
  refine lv_if_ne (tgt := 21) hx hb dX5_checkDoorstep_8 (by decide) (fun c_8 => ?_) (fun c_8 => ?_)
  · have c_8 : (dHas D.2.2.2.2.2.1 (nI (k))) = true := bI_nz.mp c_8
    have hP : va_P G vwCl (cat [[(h, .inr (5, [.ref (Ad 0), .ref (At 0), .ref (As 0), .ref (Ac 0), .ref (L 6 0)]))], dyW cyI Ad D]) H := hP
    have hD : va_D A9 (cat [[(h, .inr (5, [.ref (Ad 0), .ref (At 0), .ref (As 0), .ref (Ac 0), .ref (L 6 0)]))], dyW cyI Ad D]) := hD
    exact end_v hx hb hr hlocks hK hP hD hS dX5_checkDoorstep_21
  · have c_8 : (dHas D.2.2.2.2.2.1 (nI (k))) = false := bI_z.mp c_8
    rw [dHas_in hk hn] at c_8; cases c_8
abbrev rm_X5_checkMilkman : Room := { frames := 0, cells := 0, slots := 0, locals := 0 }
set_option maxHeartbeats 4000000 in
set_option maxRecDepth 100000 in
theorem c_X5_checkMilkman (l : Launch) (G : va_G) (cyI cyO : ClassId) (k : Nat) (hk : k < 6) : CV l G (TY cyI cyO) yX5_checkMilkman wsX5_checkMilkman rm_X5_checkMilkman [.int (nI (k))] [] [] := by
  refine wk_V (cc := cX5_checkMilkman) (maxL := 1) (ret := none) (by decide) rfl (Nat.le_of_ble_eq_true rfl) ?_
  intro p9 e9 s9 m9 b9 t9 c9 A9 ls hx hb hr hts hown hlocks hml hK hA hD hP hl hS hnm
  have hl : lv_has ls 1 [(0, .int (nI (k)))] := hl
  refine lv_iload_n hx hb dX5_checkMilkman_0 rfl (lv_at hl 0 rfl) ?_
  refine lv_if_lt (tgt := 10) hx hb dX5_checkMilkman_1 (by decide) (fun c_1 => ?_) (fun c_1 => ?_)
  · have c_1 : (k) < (0) := (nI_ltI (a := k) (b := 0) (by omega) (by omega)).mp c_1
    exact absurd c_1 (by omega)
  · have c_1 : ¬ (k) < (0) := fun h9 => c_1 ((nI_ltI (a := k) (b := 0) (by omega) (by omega)).mpr h9)
    refine lv_iload_n hx hb dX5_checkMilkman_4 rfl (lv_at hl 0 rfl) ?_
    refine lv_bipush (v := (6 : Int32)) hx hb dX5_checkMilkman_5 (by decide) ?_
    refine lv_icmp_lt (tgt := 20) hx hb dX5_checkMilkman_7 (by decide) (fun c_7 => ?_) (fun c_7 => ?_)
    · have c_7 : (k) < (6) := (nI_ltI (a := k) (b := 6) (by omega) (by omega)).mp c_7
      have hP : va_P G vwCl (cat []) s9.heap := hP
      have hD : va_D A9 (cat []) := hD
      exact end_v hx hb hr hlocks hK hP hD hS dX5_checkMilkman_20
    · have c_7 : ¬ (k) < (6) := fun h9 => c_7 ((nI_ltI (a := k) (b := 6) (by omega) (by omega)).mpr h9)
      exact absurd c_7 (by omega)
abbrev rm_X5_checkPints : Room := { frames := 0, cells := 0, slots := 0, locals := 0 }
set_option maxHeartbeats 4000000 in
set_option maxRecDepth 100000 in
theorem c_X5_checkPints (l : Launch) (G : va_G) (cyI cyO : ClassId) (v : Nat) (h1 : 1 ≤ v) (h9 : v ≤ 9) : CV l G (TY cyI cyO) yX5_checkPints wsX5_checkPints rm_X5_checkPints [.int (nI (v))] [] [] := by
  refine wk_V (cc := cX5_checkPints) (maxL := 1) (ret := none) (by decide) rfl (Nat.le_of_ble_eq_true rfl) ?_
  intro p9 e9 s9 m9 b9 t9 c9 A9 ls hx hb hr hts hown hlocks hml hK hA hD hP hl hS hnm
  have hl : lv_has ls 1 [(0, .int (nI (v)))] := hl
  refine lv_iload_n hx hb dX5_checkPints_0 rfl (lv_at hl 0 rfl) ?_
  refine lv_iconst (v := (1 : Int32)) hx hb dX5_checkPints_1 (by decide) ?_
  refine lv_icmp_lt (tgt := 11) hx hb dX5_checkPints_2 (by decide) (fun c_2 => ?_) (fun c_2 => ?_)
  · have c_2 : (v) < (1) := (nI_ltI (a := v) (b := 1) (by omega) (by omega)).mp c_2
    exact absurd c_2 (by omega)
  · have c_2 : ¬ (v) < (1) := fun h9 => c_2 ((nI_ltI (a := v) (b := 1) (by omega) (by omega)).mpr h9)
    refine lv_iload_n hx hb dX5_checkPints_5 rfl (lv_at hl 0 rfl) ?_
    refine lv_bipush (v := (9 : Int32)) hx hb dX5_checkPints_6 (by decide) ?_
    refine lv_icmp_le (tgt := 21) hx hb dX5_checkPints_8 (by decide) (fun c_8 => ?_) (fun c_8 => ?_)
    · have c_8 : (v) ≤ (9) := (nI_leI (a := v) (b := 9) (by omega) (by omega)).mp c_8
      have hP : va_P G vwCl (cat []) s9.heap := hP
      have hD : va_D A9 (cat []) := hD
      exact end_v hx hb hr hlocks hK hP hD hS dX5_checkPints_21
    · have c_8 : ¬ (v) ≤ (9) := fun h9 => c_8 ((nI_leI (a := v) (b := 9) (by omega) (by omega)).mpr h9)
      exact absurd c_8 (by omega)
abbrev rm_X5_addDoorstep : Room := { frames := 4, cells := 0, slots := 0, locals := 86 }
set_option maxHeartbeats 4000000 in
set_option maxRecDepth 100000 in
theorem c_X5_addDoorstep (l : Launch) (G : va_G) (cyI cyO : ClassId) (h : Nat) (Ad At As Ac : Nat → Nat) (L : Nat → Nat → Nat) (D : DS) (V : HS) (hn : D.2.2.2.2.2.1 ≤ 20) (hV : V.1 ≤ 6) (v : Nat) (h1 : 1 ≤ v) (h9 : v ≤ 9) (hm : (!dHO D && decide (D.2.2.2.2.2.1 < 20)) = true) : CI l G (TY cyI cyO) yX5_addDoorstep wsX5_addDoorstep rm_X5_addDoorstep [.ref (h), .int (nI (v))] [[(h, .inr (5, [.ref (Ad 0), .ref (At 0), .ref (As 0), .ref (Ac 0), .ref (L 6 0)]))], dyW cyI Ad D, hiW cyI cyO L V] (nI (D.2.2.2.2.2.1)) [[(h, .inr (5, [.ref (Ad 0), .ref (At 0), .ref (As 0), .ref (Ac 0), .ref (L 6 0)]))], dyW cyI Ad (dAdd D (nI v)), hiW cyI cyO (svM L V) (svS V D)] := by
  refine wk_I (cc := cX5_addDoorstep) (maxL := 2) (ret := (some .int)) (by decide) rfl (Nat.le_of_ble_eq_true rfl) ?_
  intro p9 e9 s9 m9 b9 t9 c9 A9 ls hx hb hr hts hown hlocks hml hK hA hD hP hl hS hnm
  have hl : lv_has ls 2 [(0, .ref (h)), (1, .int (nI (v)))] := hl
  have hinX5 : ∀ w ∈ wsX50, w ∈ wsX5_addDoorstep := by decide +kernel
  have hf10 := hts (.fieldLink RX5 10 "DoorstepRounds" "dairy" "LDoorstepRounds$Dairy;") (by decide +kernel)
  have hf36 := hts (.fieldLink RX5 36 "DoorstepRounds" "history" "LDoorstepRounds$History;") (by decide +kernel)
  have hm20 := mayAdd_lt hm
  refine lv_iload_n hx hb dX5_addDoorstep_0 rfl (lv_at hl 1 rfl) ?_
  refine gSv (gs := [[(h, .inr (5, [.ref (Ad 0), .ref (At 0), .ref (As 0), .ref (Ac 0), .ref (L 6 0)]))], dyW cyI Ad D, hiW cyI cyO L V]) (As := [.int (nI (v))]) (rest := []) ⟨hx, hb, hml, hown, hts⟩ (c_X5_checkPints l G cyI cyO v (by omega) (by omega)) (va_cwS 1 hts gX5_addDoorstep_X5_checkPints rfl rfl rfl (by decide +kernel) ⟨Nat.le_of_ble_eq_true rfl, Nat.le_of_ble_eq_true rfl⟩) hK hP hD hS hA [] rfl rfl rfl rfl hl.1 rfl (Nat.le_of_ble_eq_true rfl) dX5_addDoorstep_1 ⟨Nat.le_refl _, Nat.le_refl _⟩ (fun H locs hP hD hS => ?_)
  have hP : va_P G vwCl (cat [[(h, .inr (5, [.ref (Ad 0), .ref (At 0), .ref (As 0), .ref (Ac 0), .ref (L 6 0)]))], dyW cyI Ad D, hiW cyI cyO L V]) H := hP
  have hD : va_D A9 (cat [[(h, .inr (5, [.ref (Ad 0), .ref (At 0), .ref (As 0), .ref (Ac 0), .ref (L 6 0)]))], dyW cyI Ad D, hiW cyI cyO L V]) := hD
  refine lv_aload_n hx hb dX5_addDoorstep_4 rfl (lv_at hl 0 rfl) ?_
  refine va_get (v := .ref (Ad 0)) (C := RX5) (T := TX5) (N := 5) hx hb hts hinX5 hown hK hP 0 rfl rfl 0 (by decide) hf10 (fun _ h9 => h9) rfl dX5_addDoorstep_5 ?_
  refine gVi (gs := [[(h, .inr (5, [.ref (Ad 0), .ref (At 0), .ref (As 0), .ref (Ac 0), .ref (L 6 0)]))], dyW cyI Ad D, hiW cyI cyO L V]) (As := []) (rest := []) ⟨hx, hb, hml, hown, hts⟩ (c_X1_mayAdd l G cyI cyO Ad D (by omega)) (cwV 0 hts gX5_addDoorstep_X1_mayAdd rfl rfl rfl (by decide +kernel) ⟨Nat.le_of_ble_eq_true rfl, Nat.le_of_ble_eq_true rfl⟩) hK hP hD hS hA [1] rfl rfl rfl 0 1 rfl rfl rfl hl.1 rfl (Nat.le_of_ble_eq_true rfl) dX5_addDoorstep_8 ⟨Nat.le_refl _, Nat.le_refl _⟩ (fun H locs hP hD hS => ?_)
  have hP : va_P G vwCl (cat [[(h, .inr (5, [.ref (Ad 0), .ref (At 0), .ref (As 0), .ref (Ac 0), .ref (L 6 0)]))], dyW cyI Ad D, hiW cyI cyO L V]) H := hP
  have hD : va_D A9 (cat [[(h, .inr (5, [.ref (Ad 0), .ref (At 0), .ref (As 0), .ref (Ac 0), .ref (L 6 0)]))], dyW cyI Ad D, hiW cyI cyO L V]) := hD
  refine lv_if_ne (tgt := 24) hx hb dX5_addDoorstep_11 (by decide) (fun c_11 => ?_) (fun c_11 => ?_)
  · have c_11 : (!dHO D && decide (D.2.2.2.2.2.1 < 20)) = true := bI_nz.mp c_11
    refine lv_aload_n hx hb dX5_addDoorstep_24 rfl (lv_at hl 0 rfl) ?_
    refine va_get (v := .ref (L 6 0)) (C := RX5) (T := TX5) (N := 5) hx hb hts hinX5 hown hK hP 0 rfl rfl 4 (by decide) hf36 (fun _ h9 => h9) rfl dX5_addDoorstep_25 ?_
    refine lv_aload_n hx hb dX5_addDoorstep_28 rfl (lv_at hl 0 rfl) ?_
    refine va_get (v := .ref (Ad 0)) (C := RX5) (T := TX5) (N := 5) hx hb hts hinX5 hown hK hP 0 rfl rfl 0 (by decide) hf10 (fun _ h9 => h9) rfl dX5_addDoorstep_29 ?_
    refine gVv (gs := [[(h, .inr (5, [.ref (Ad 0), .ref (At 0), .ref (As 0), .ref (Ac 0), .ref (L 6 0)]))], dyW cyI Ad D, hiW cyI cyO L V]) (As := [.ref (Ad 0)]) (rest := []) ⟨hx, hb, hml, hown, hts⟩ (c_X2_saveS l G cyI cyO L V Ad D (by omega)) (cwV 1 hts gX5_addDoorstep_X2_save rfl rfl rfl (by decide +kernel) ⟨Nat.le_of_ble_eq_true rfl, Nat.le_of_ble_eq_true rfl⟩) hK hP hD hS hA [2, 1] rfl rfl rfl 0 2 rfl rfl rfl hl.1 rfl (Nat.le_of_ble_eq_true rfl) dX5_addDoorstep_32 ⟨Nat.le_refl _, Nat.le_refl _⟩ (fun H locs hP hD hS => ?_)
    have hP : va_P G vwCl (cat [[(h, .inr (5, [.ref (Ad 0), .ref (At 0), .ref (As 0), .ref (Ac 0), .ref (L 6 0)]))], dyW cyI Ad D, hiW cyI cyO (svM L V) (svS V D)]) H := hP
    have hD : va_D A9 (cat [[(h, .inr (5, [.ref (Ad 0), .ref (At 0), .ref (As 0), .ref (Ac 0), .ref (L 6 0)]))], dyW cyI Ad D, hiW cyI cyO (svM L V) (svS V D)]) := hD
    refine lv_aload_n hx hb dX5_addDoorstep_35 rfl (lv_at hl 0 rfl) ?_
    refine va_get (v := .ref (Ad 0)) (C := RX5) (T := TX5) (N := 5) hx hb hts hinX5 hown hK hP 0 rfl rfl 0 (by decide) hf10 (fun _ h9 => h9) rfl dX5_addDoorstep_36 ?_
    refine lv_iload_n hx hb dX5_addDoorstep_39 rfl (lv_at hl 1 rfl) ?_
    refine gVi (gs := [[(h, .inr (5, [.ref (Ad 0), .ref (At 0), .ref (As 0), .ref (Ac 0), .ref (L 6 0)]))], dyW cyI Ad D, hiW cyI cyO (svM L V) (svS V D)]) (As := [.int (nI (v))]) (rest := []) ⟨hx, hb, hml, hown, hts⟩ (c_X1_addOne l G cyI cyO Ad D (nI (v)) (by omega)) (cwV 1 hts gX5_addDoorstep_X1_addOne rfl rfl rfl (by decide +kernel) ⟨Nat.le_of_ble_eq_true rfl, Nat.le_of_ble_eq_true rfl⟩) hK hP hD hS hA [1] rfl rfl rfl 0 1 rfl rfl rfl hl.1 rfl (Nat.le_of_ble_eq_true rfl) dX5_addDoorstep_40 ⟨Nat.le_refl _, Nat.le_refl _⟩ (fun H locs hP hD hS => ?_)
    have hP : va_P G vwCl (cat [[(h, .inr (5, [.ref (Ad 0), .ref (At 0), .ref (As 0), .ref (Ac 0), .ref (L 6 0)]))], dyW cyI Ad ((upd D.1 D.2.2.2.2.2.1 (nI (v)), upd D.2.1 D.2.2.2.2.2.1 (-1), D.2.2.1, D.2.2.2.1, D.2.2.2.2.1, D.2.2.2.2.2.1 + 1, D.2.2.2.2.2.2.1, D.2.2.2.2.2.2.2.1, D.2.2.2.2.2.2.2.2.1, D.2.2.2.2.2.2.2.2.2)), hiW cyI cyO (svM L V) (svS V D)]) H := hP
    have hD : va_D A9 (cat [[(h, .inr (5, [.ref (Ad 0), .ref (At 0), .ref (As 0), .ref (Ac 0), .ref (L 6 0)]))], dyW cyI Ad ((upd D.1 D.2.2.2.2.2.1 (nI (v)), upd D.2.1 D.2.2.2.2.2.1 (-1), D.2.2.1, D.2.2.2.1, D.2.2.2.2.1, D.2.2.2.2.2.1 + 1, D.2.2.2.2.2.2.1, D.2.2.2.2.2.2.2.1, D.2.2.2.2.2.2.2.2.1, D.2.2.2.2.2.2.2.2.2)), hiW cyI cyO (svM L V) (svS V D)]) := hD
    have hP : va_P G vwCl (cat [[(h, .inr (5, [.ref (Ad 0), .ref (At 0), .ref (As 0), .ref (Ac 0), .ref (L 6 0)]))], dyW cyI Ad (dAdd D (nI v)), hiW cyI cyO (svM L V) (svS V D)]) H := hP
    have hD : va_D A9 (cat [[(h, .inr (5, [.ref (Ad 0), .ref (At 0), .ref (As 0), .ref (Ac 0), .ref (L 6 0)]))], dyW cyI Ad (dAdd D (nI v)), hiW cyI cyO (svM L V) (svS V D)]) := hD
    exact end_i hx hb hr hlocks hK hP hD hS (rfl) dX5_addDoorstep_43
  · have c_11 : (!dHO D && decide (D.2.2.2.2.2.1 < 20)) = false := bI_z.mp c_11
    rw [hm] at c_11; cases c_11
abbrev rm_X5_removeDoorstep : Room := { frames := 4, cells := 0, slots := 0, locals := 86 }
set_option maxHeartbeats 4000000 in
set_option maxRecDepth 100000 in
theorem c_X5_removeDoorstep (l : Launch) (G : va_G) (cyI cyO : ClassId) (h : Nat) (Ad At As Ac : Nat → Nat) (L : Nat → Nat → Nat) (D : DS) (V : HS) (hn : D.2.2.2.2.2.1 ≤ 20) (hV : V.1 ≤ 6) (k : Nat) (hk : k < D.2.2.2.2.2.1) (ho : dHO D = false) : CI l G (TY cyI cyO) yX5_removeDoorstep wsX5_removeDoorstep rm_X5_removeDoorstep [.ref (h), .int (nI (k))] [[(h, .inr (5, [.ref (Ad 0), .ref (At 0), .ref (As 0), .ref (Ac 0), .ref (L 6 0)]))], dyW cyI Ad D, hiW cyI cyO L V] (D.2.1 k) [[(h, .inr (5, [.ref (Ad 0), .ref (At 0), .ref (As 0), .ref (Ac 0), .ref (L 6 0)]))], dyW cyI Ad (dRem D k), hiW cyI cyO (svM L V) (svS V D)] := by
  refine wk_I (cc := cX5_removeDoorstep) (maxL := 2) (ret := (some .int)) (by decide) rfl (Nat.le_of_ble_eq_true rfl) ?_
  intro p9 e9 s9 m9 b9 t9 c9 A9 ls hx hb hr hts hown hlocks hml hK hA hD hP hl hS hnm
  have hl : lv_has ls 2 [(0, .ref (h)), (1, .int (nI (k)))] := hl
  have hinX5 : ∀ w ∈ wsX50, w ∈ wsX5_removeDoorstep := by decide +kernel
  have hf10 := hts (.fieldLink RX5 10 "DoorstepRounds" "dairy" "LDoorstepRounds$Dairy;") (by decide +kernel)
  have hf36 := hts (.fieldLink RX5 36 "DoorstepRounds" "history" "LDoorstepRounds$History;") (by decide +kernel)
  refine lv_aload_n hx hb dX5_removeDoorstep_0 rfl (lv_at hl 0 rfl) ?_
  refine lv_iload_n hx hb dX5_removeDoorstep_1 rfl (lv_at hl 1 rfl) ?_
  refine gVv (gs := [[(h, .inr (5, [.ref (Ad 0), .ref (At 0), .ref (As 0), .ref (Ac 0), .ref (L 6 0)]))], dyW cyI Ad D, hiW cyI cyO L V]) (As := [.int (nI (k))]) (rest := []) ⟨hx, hb, hml, hown, hts⟩ (c_X5_checkDoorstep l G cyI cyO h Ad At As Ac L D (by omega) k (by omega)) (cwV 1 hts gX5_removeDoorstep_X5_checkDoorstep rfl rfl rfl (by decide +kernel) ⟨Nat.le_of_ble_eq_true rfl, Nat.le_of_ble_eq_true rfl⟩) hK hP hD hS hA [0, 1] rfl rfl rfl 0 5 rfl rfl rfl hl.1 rfl (Nat.le_of_ble_eq_true rfl) dX5_removeDoorstep_2 ⟨Nat.le_refl _, Nat.le_refl _⟩ (fun H locs hP hD hS => ?_)
  have hP : va_P G vwCl (cat [[(h, .inr (5, [.ref (Ad 0), .ref (At 0), .ref (As 0), .ref (Ac 0), .ref (L 6 0)]))], dyW cyI Ad D, hiW cyI cyO L V]) H := hP
  have hD : va_D A9 (cat [[(h, .inr (5, [.ref (Ad 0), .ref (At 0), .ref (As 0), .ref (Ac 0), .ref (L 6 0)]))], dyW cyI Ad D, hiW cyI cyO L V]) := hD
  refine lv_aload_n hx hb dX5_removeDoorstep_5 rfl (lv_at hl 0 rfl) ?_
  refine va_get (v := .ref (Ad 0)) (C := RX5) (T := TX5) (N := 5) hx hb hts hinX5 hown hK hP 0 rfl rfl 0 (by decide) hf10 (fun _ h9 => h9) rfl dX5_removeDoorstep_6 ?_
  refine lv_iload_n hx hb dX5_removeDoorstep_9 rfl (lv_at hl 1 rfl) ?_
  refine gVi (gs := [[(h, .inr (5, [.ref (Ad 0), .ref (At 0), .ref (As 0), .ref (Ac 0), .ref (L 6 0)]))], dyW cyI Ad D, hiW cyI cyO L V]) (As := [.int (nI (k))]) (rest := []) ⟨hx, hb, hml, hown, hts⟩ (c_X1_mayRemove l G cyI cyO Ad D (nI (k))) (cwV 1 hts gX5_removeDoorstep_X1_mayRemove rfl rfl rfl (by decide +kernel) ⟨Nat.le_of_ble_eq_true rfl, Nat.le_of_ble_eq_true rfl⟩) hK hP hD hS hA [1] rfl rfl rfl 0 1 rfl rfl rfl hl.1 rfl (Nat.le_of_ble_eq_true rfl) dX5_removeDoorstep_10 ⟨Nat.le_refl _, Nat.le_refl _⟩ (fun H locs hP hD hS => ?_)
  have hP : va_P G vwCl (cat [[(h, .inr (5, [.ref (Ad 0), .ref (At 0), .ref (As 0), .ref (Ac 0), .ref (L 6 0)]))], dyW cyI Ad D, hiW cyI cyO L V]) H := hP
  have hD : va_D A9 (cat [[(h, .inr (5, [.ref (Ad 0), .ref (At 0), .ref (As 0), .ref (Ac 0), .ref (L 6 0)]))], dyW cyI Ad D, hiW cyI cyO L V]) := hD
  refine lv_if_ne (tgt := 26) hx hb dX5_removeDoorstep_13 (by decide) (fun c_13 => ?_) (fun c_13 => ?_)
  · have c_13 : (dHas D.2.2.2.2.2.1 (nI (k)) && !dHO D) = true := bI_nz.mp c_13
    refine lv_aload_n hx hb dX5_removeDoorstep_26 rfl (lv_at hl 0 rfl) ?_
    refine va_get (v := .ref (L 6 0)) (C := RX5) (T := TX5) (N := 5) hx hb hts hinX5 hown hK hP 0 rfl rfl 4 (by decide) hf36 (fun _ h9 => h9) rfl dX5_removeDoorstep_27 ?_
    refine lv_aload_n hx hb dX5_removeDoorstep_30 rfl (lv_at hl 0 rfl) ?_
    refine va_get (v := .ref (Ad 0)) (C := RX5) (T := TX5) (N := 5) hx hb hts hinX5 hown hK hP 0 rfl rfl 0 (by decide) hf10 (fun _ h9 => h9) rfl dX5_removeDoorstep_31 ?_
    refine gVv (gs := [[(h, .inr (5, [.ref (Ad 0), .ref (At 0), .ref (As 0), .ref (Ac 0), .ref (L 6 0)]))], dyW cyI Ad D, hiW cyI cyO L V]) (As := [.ref (Ad 0)]) (rest := []) ⟨hx, hb, hml, hown, hts⟩ (c_X2_saveS l G cyI cyO L V Ad D (by omega)) (cwV 1 hts gX5_removeDoorstep_X2_save rfl rfl rfl (by decide +kernel) ⟨Nat.le_of_ble_eq_true rfl, Nat.le_of_ble_eq_true rfl⟩) hK hP hD hS hA [2, 1] rfl rfl rfl 0 2 rfl rfl rfl hl.1 rfl (Nat.le_of_ble_eq_true rfl) dX5_removeDoorstep_34 ⟨Nat.le_refl _, Nat.le_refl _⟩ (fun H locs hP hD hS => ?_)
    have hP : va_P G vwCl (cat [[(h, .inr (5, [.ref (Ad 0), .ref (At 0), .ref (As 0), .ref (Ac 0), .ref (L 6 0)]))], dyW cyI Ad D, hiW cyI cyO (svM L V) (svS V D)]) H := hP
    have hD : va_D A9 (cat [[(h, .inr (5, [.ref (Ad 0), .ref (At 0), .ref (As 0), .ref (Ac 0), .ref (L 6 0)]))], dyW cyI Ad D, hiW cyI cyO (svM L V) (svS V D)]) := hD
    refine lv_aload_n hx hb dX5_removeDoorstep_37 rfl (lv_at hl 0 rfl) ?_
    refine va_get (v := .ref (Ad 0)) (C := RX5) (T := TX5) (N := 5) hx hb hts hinX5 hown hK hP 0 rfl rfl 0 (by decide) hf10 (fun _ h9 => h9) rfl dX5_removeDoorstep_38 ?_
    refine lv_iload_n hx hb dX5_removeDoorstep_41 rfl (lv_at hl 1 rfl) ?_
    refine gVi (gs := [[(h, .inr (5, [.ref (Ad 0), .ref (At 0), .ref (As 0), .ref (Ac 0), .ref (L 6 0)]))], dyW cyI Ad D, hiW cyI cyO (svM L V) (svS V D)]) (As := [.int (nI (k))]) (rest := []) ⟨hx, hb, hml, hown, hts⟩ (c_X1_removeOne l G cyI cyO Ad D k (by omega) (by omega)) (cwV 1 hts gX5_removeDoorstep_X1_removeOne rfl rfl rfl (by decide +kernel) ⟨Nat.le_of_ble_eq_true rfl, Nat.le_of_ble_eq_true rfl⟩) hK hP hD hS hA [1] rfl rfl rfl 0 1 rfl rfl rfl hl.1 rfl (Nat.le_of_ble_eq_true rfl) dX5_removeDoorstep_42 ⟨Nat.le_refl _, Nat.le_refl _⟩ (fun H locs hP hD hS => ?_)
    have hP : va_P G vwCl (cat [[(h, .inr (5, [.ref (Ad 0), .ref (At 0), .ref (As 0), .ref (Ac 0), .ref (L 6 0)]))], dyW cyI Ad ((rowGap D.1 20 k, rowGap D.2.1 20 k, D.2.2.1, D.2.2.2.1, D.2.2.2.2.1, D.2.2.2.2.2.1 - 1, D.2.2.2.2.2.2.1, D.2.2.2.2.2.2.2.1, D.2.2.2.2.2.2.2.2.1, D.2.2.2.2.2.2.2.2.2)), hiW cyI cyO (svM L V) (svS V D)]) H := hP
    have hD : va_D A9 (cat [[(h, .inr (5, [.ref (Ad 0), .ref (At 0), .ref (As 0), .ref (Ac 0), .ref (L 6 0)]))], dyW cyI Ad ((rowGap D.1 20 k, rowGap D.2.1 20 k, D.2.2.1, D.2.2.2.1, D.2.2.2.2.1, D.2.2.2.2.2.1 - 1, D.2.2.2.2.2.2.1, D.2.2.2.2.2.2.2.1, D.2.2.2.2.2.2.2.2.1, D.2.2.2.2.2.2.2.2.2)), hiW cyI cyO (svM L V) (svS V D)]) := hD
    have hP : va_P G vwCl (cat [[(h, .inr (5, [.ref (Ad 0), .ref (At 0), .ref (As 0), .ref (Ac 0), .ref (L 6 0)]))], dyW cyI Ad (dRem D k), hiW cyI cyO (svM L V) (svS V D)]) H := hP
    have hD : va_D A9 (cat [[(h, .inr (5, [.ref (Ad 0), .ref (At 0), .ref (As 0), .ref (Ac 0), .ref (L 6 0)]))], dyW cyI Ad (dRem D k), hiW cyI cyO (svM L V) (svS V D)]) := hD
    exact end_i hx hb hr hlocks hK hP hD hS (rfl) dX5_removeDoorstep_45
  · have c_13 : (dHas D.2.2.2.2.2.1 (nI (k)) && !dHO D) = false := bI_z.mp c_13
    rw [dHas_in hk hn, ho] at c_13; cases c_13
abbrev rm_X5_setPints : Room := { frames := 4, cells := 0, slots := 0, locals := 86 }
set_option maxHeartbeats 4000000 in
set_option maxRecDepth 100000 in
theorem c_X5_setPints (l : Launch) (G : va_G) (cyI cyO : ClassId) (h : Nat) (Ad At As Ac : Nat → Nat) (L : Nat → Nat → Nat) (D : DS) (V : HS) (hn : D.2.2.2.2.2.1 ≤ 20) (hV : V.1 ≤ 6) (k : Nat) (hk : k < D.2.2.2.2.2.1) (v : Nat) (h1 : 1 ≤ v) (h9 : v ≤ 9) : CI l G (TY cyI cyO) yX5_setPints wsX5_setPints rm_X5_setPints [.ref (h), .int (nI (k)), .int (nI (v))] [[(h, .inr (5, [.ref (Ad 0), .ref (At 0), .ref (As 0), .ref (Ac 0), .ref (L 6 0)]))], dyW cyI Ad D, hiW cyI cyO L V] (D.1 k) [[(h, .inr (5, [.ref (Ad 0), .ref (At 0), .ref (As 0), .ref (Ac 0), .ref (L 6 0)]))], dyW cyI Ad (dPts D k (nI v)), hiW cyI cyO (svM L V) (svS V D)] := by
  refine wk_I (cc := cX5_setPints) (maxL := 3) (ret := (some .int)) (by decide) rfl (Nat.le_of_ble_eq_true rfl) ?_
  intro p9 e9 s9 m9 b9 t9 c9 A9 ls hx hb hr hts hown hlocks hml hK hA hD hP hl hS hnm
  have hl : lv_has ls 3 [(0, .ref (h)), (1, .int (nI (k))), (2, .int (nI (v)))] := hl
  have hinX5 : ∀ w ∈ wsX50, w ∈ wsX5_setPints := by decide +kernel
  have hf10 := hts (.fieldLink RX5 10 "DoorstepRounds" "dairy" "LDoorstepRounds$Dairy;") (by decide +kernel)
  have hf36 := hts (.fieldLink RX5 36 "DoorstepRounds" "history" "LDoorstepRounds$History;") (by decide +kernel)
  refine lv_aload_n hx hb dX5_setPints_0 rfl (lv_at hl 0 rfl) ?_
  refine lv_iload_n hx hb dX5_setPints_1 rfl (lv_at hl 1 rfl) ?_
  refine gVv (gs := [[(h, .inr (5, [.ref (Ad 0), .ref (At 0), .ref (As 0), .ref (Ac 0), .ref (L 6 0)]))], dyW cyI Ad D, hiW cyI cyO L V]) (As := [.int (nI (k))]) (rest := []) ⟨hx, hb, hml, hown, hts⟩ (c_X5_checkDoorstep l G cyI cyO h Ad At As Ac L D (by omega) k (by omega)) (cwV 1 hts gX5_setPints_X5_checkDoorstep rfl rfl rfl (by decide +kernel) ⟨Nat.le_of_ble_eq_true rfl, Nat.le_of_ble_eq_true rfl⟩) hK hP hD hS hA [0, 1] rfl rfl rfl 0 5 rfl rfl rfl hl.1 rfl (Nat.le_of_ble_eq_true rfl) dX5_setPints_2 ⟨Nat.le_refl _, Nat.le_refl _⟩ (fun H locs hP hD hS => ?_)
  have hP : va_P G vwCl (cat [[(h, .inr (5, [.ref (Ad 0), .ref (At 0), .ref (As 0), .ref (Ac 0), .ref (L 6 0)]))], dyW cyI Ad D, hiW cyI cyO L V]) H := hP
  have hD : va_D A9 (cat [[(h, .inr (5, [.ref (Ad 0), .ref (At 0), .ref (As 0), .ref (Ac 0), .ref (L 6 0)]))], dyW cyI Ad D, hiW cyI cyO L V]) := hD
  refine lv_iload_n hx hb dX5_setPints_5 rfl (lv_at hl 2 rfl) ?_
  refine gSv (gs := [[(h, .inr (5, [.ref (Ad 0), .ref (At 0), .ref (As 0), .ref (Ac 0), .ref (L 6 0)]))], dyW cyI Ad D, hiW cyI cyO L V]) (As := [.int (nI (v))]) (rest := []) ⟨hx, hb, hml, hown, hts⟩ (c_X5_checkPints l G cyI cyO v (by omega) (by omega)) (va_cwS 1 hts gX5_setPints_X5_checkPints rfl rfl rfl (by decide +kernel) ⟨Nat.le_of_ble_eq_true rfl, Nat.le_of_ble_eq_true rfl⟩) hK hP hD hS hA [] rfl rfl rfl rfl hl.1 rfl (Nat.le_of_ble_eq_true rfl) dX5_setPints_6 ⟨Nat.le_refl _, Nat.le_refl _⟩ (fun H locs hP hD hS => ?_)
  have hP : va_P G vwCl (cat [[(h, .inr (5, [.ref (Ad 0), .ref (At 0), .ref (As 0), .ref (Ac 0), .ref (L 6 0)]))], dyW cyI Ad D, hiW cyI cyO L V]) H := hP
  have hD : va_D A9 (cat [[(h, .inr (5, [.ref (Ad 0), .ref (At 0), .ref (As 0), .ref (Ac 0), .ref (L 6 0)]))], dyW cyI Ad D, hiW cyI cyO L V]) := hD
  refine lv_aload_n hx hb dX5_setPints_9 rfl (lv_at hl 0 rfl) ?_
  refine va_get (v := .ref (L 6 0)) (C := RX5) (T := TX5) (N := 5) hx hb hts hinX5 hown hK hP 0 rfl rfl 4 (by decide) hf36 (fun _ h9 => h9) rfl dX5_setPints_10 ?_
  refine lv_aload_n hx hb dX5_setPints_13 rfl (lv_at hl 0 rfl) ?_
  refine va_get (v := .ref (Ad 0)) (C := RX5) (T := TX5) (N := 5) hx hb hts hinX5 hown hK hP 0 rfl rfl 0 (by decide) hf10 (fun _ h9 => h9) rfl dX5_setPints_14 ?_
  refine gVv (gs := [[(h, .inr (5, [.ref (Ad 0), .ref (At 0), .ref (As 0), .ref (Ac 0), .ref (L 6 0)]))], dyW cyI Ad D, hiW cyI cyO L V]) (As := [.ref (Ad 0)]) (rest := []) ⟨hx, hb, hml, hown, hts⟩ (c_X2_saveS l G cyI cyO L V Ad D (by omega)) (cwV 1 hts gX5_setPints_X2_save rfl rfl rfl (by decide +kernel) ⟨Nat.le_of_ble_eq_true rfl, Nat.le_of_ble_eq_true rfl⟩) hK hP hD hS hA [2, 1] rfl rfl rfl 0 2 rfl rfl rfl hl.1 rfl (Nat.le_of_ble_eq_true rfl) dX5_setPints_17 ⟨Nat.le_refl _, Nat.le_refl _⟩ (fun H locs hP hD hS => ?_)
  have hP : va_P G vwCl (cat [[(h, .inr (5, [.ref (Ad 0), .ref (At 0), .ref (As 0), .ref (Ac 0), .ref (L 6 0)]))], dyW cyI Ad D, hiW cyI cyO (svM L V) (svS V D)]) H := hP
  have hD : va_D A9 (cat [[(h, .inr (5, [.ref (Ad 0), .ref (At 0), .ref (As 0), .ref (Ac 0), .ref (L 6 0)]))], dyW cyI Ad D, hiW cyI cyO (svM L V) (svS V D)]) := hD
  refine lv_aload_n hx hb dX5_setPints_20 rfl (lv_at hl 0 rfl) ?_
  refine va_get (v := .ref (Ad 0)) (C := RX5) (T := TX5) (N := 5) hx hb hts hinX5 hown hK hP 0 rfl rfl 0 (by decide) hf10 (fun _ h9 => h9) rfl dX5_setPints_21 ?_
  refine lv_iload_n hx hb dX5_setPints_24 rfl (lv_at hl 1 rfl) ?_
  refine lv_iload_n hx hb dX5_setPints_25 rfl (lv_at hl 2 rfl) ?_
  refine gVi (gs := [[(h, .inr (5, [.ref (Ad 0), .ref (At 0), .ref (As 0), .ref (Ac 0), .ref (L 6 0)]))], dyW cyI Ad D, hiW cyI cyO (svM L V) (svS V D)]) (As := [.int (nI (k)), .int (nI (v))]) (rest := []) ⟨hx, hb, hml, hown, hts⟩ (c_X1_changePints l G cyI cyO Ad D k (nI (v)) (by omega)) (cwV 2 hts gX5_setPints_X1_changePints rfl rfl rfl (by decide +kernel) ⟨Nat.le_of_ble_eq_true rfl, Nat.le_of_ble_eq_true rfl⟩) hK hP hD hS hA [1] rfl rfl rfl 0 1 rfl rfl rfl hl.1 rfl (Nat.le_of_ble_eq_true rfl) dX5_setPints_26 ⟨Nat.le_refl _, Nat.le_refl _⟩ (fun H locs hP hD hS => ?_)
  have hP : va_P G vwCl (cat [[(h, .inr (5, [.ref (Ad 0), .ref (At 0), .ref (As 0), .ref (Ac 0), .ref (L 6 0)]))], dyW cyI Ad ((upd D.1 k (nI (v)), D.2.1, D.2.2.1, D.2.2.2.1, D.2.2.2.2.1, D.2.2.2.2.2.1, D.2.2.2.2.2.2.1, D.2.2.2.2.2.2.2.1, D.2.2.2.2.2.2.2.2.1, D.2.2.2.2.2.2.2.2.2)), hiW cyI cyO (svM L V) (svS V D)]) H := hP
  have hD : va_D A9 (cat [[(h, .inr (5, [.ref (Ad 0), .ref (At 0), .ref (As 0), .ref (Ac 0), .ref (L 6 0)]))], dyW cyI Ad ((upd D.1 k (nI (v)), D.2.1, D.2.2.1, D.2.2.2.1, D.2.2.2.2.1, D.2.2.2.2.2.1, D.2.2.2.2.2.2.1, D.2.2.2.2.2.2.2.1, D.2.2.2.2.2.2.2.2.1, D.2.2.2.2.2.2.2.2.2)), hiW cyI cyO (svM L V) (svS V D)]) := hD
  have hP : va_P G vwCl (cat [[(h, .inr (5, [.ref (Ad 0), .ref (At 0), .ref (As 0), .ref (Ac 0), .ref (L 6 0)]))], dyW cyI Ad (dPts D k (nI v)), hiW cyI cyO (svM L V) (svS V D)]) H := hP
  have hD : va_D A9 (cat [[(h, .inr (5, [.ref (Ad 0), .ref (At 0), .ref (As 0), .ref (Ac 0), .ref (L 6 0)]))], dyW cyI Ad (dPts D k (nI v)), hiW cyI cyO (svM L V) (svS V D)]) := hD
  exact end_i hx hb hr hlocks hK hP hD hS (rfl) dX5_setPints_29
abbrev rm_X5_come : Room := { frames := 4, cells := 0, slots := 0, locals := 86 }
set_option maxHeartbeats 4000000 in
set_option maxRecDepth 100000 in
theorem c_X5_come (l : Launch) (G : va_G) (cyI cyO : ClassId) (h : Nat) (Ad At As Ac : Nat → Nat) (L : Nat → Nat → Nat) (D : DS) (V : HS) (hn : D.2.2.2.2.2.1 ≤ 20) (hV : V.1 ≤ 6) (k : Nat) (hk : k < 6) (hm : (!dHO D && !decide (D.2.2.1 k = 1)) = true) : CI l G (TY cyI cyO) yX5_come wsX5_come rm_X5_come [.ref (h), .int (nI (k))] [[(h, .inr (5, [.ref (Ad 0), .ref (At 0), .ref (As 0), .ref (Ac 0), .ref (L 6 0)]))], dyW cyI Ad D, hiW cyI cyO L V] (nI (cW (upd D.2.2.1 k 1))) [[(h, .inr (5, [.ref (Ad 0), .ref (At 0), .ref (As 0), .ref (Ac 0), .ref (L 6 0)]))], dyW cyI Ad (dWel D k), hiW cyI cyO (svM L V) (svS V D)] := by
  refine wk_I (cc := cX5_come) (maxL := 2) (ret := (some .int)) (by decide) rfl (Nat.le_of_ble_eq_true rfl) ?_
  intro p9 e9 s9 m9 b9 t9 c9 A9 ls hx hb hr hts hown hlocks hml hK hA hD hP hl hS hnm
  have hl : lv_has ls 2 [(0, .ref (h)), (1, .int (nI (k)))] := hl
  have hinX5 : ∀ w ∈ wsX50, w ∈ wsX5_come := by decide +kernel
  have hf10 := hts (.fieldLink RX5 10 "DoorstepRounds" "dairy" "LDoorstepRounds$Dairy;") (by decide +kernel)
  have hf36 := hts (.fieldLink RX5 36 "DoorstepRounds" "history" "LDoorstepRounds$History;") (by decide +kernel)
  refine lv_iload_n hx hb dX5_come_0 rfl (lv_at hl 1 rfl) ?_
  refine gSv (gs := [[(h, .inr (5, [.ref (Ad 0), .ref (At 0), .ref (As 0), .ref (Ac 0), .ref (L 6 0)]))], dyW cyI Ad D, hiW cyI cyO L V]) (As := [.int (nI (k))]) (rest := []) ⟨hx, hb, hml, hown, hts⟩ (c_X5_checkMilkman l G cyI cyO k (by omega)) (va_cwS 1 hts gX5_come_X5_checkMilkman rfl rfl rfl (by decide +kernel) ⟨Nat.le_of_ble_eq_true rfl, Nat.le_of_ble_eq_true rfl⟩) hK hP hD hS hA [] rfl rfl rfl rfl hl.1 rfl (Nat.le_of_ble_eq_true rfl) dX5_come_1 ⟨Nat.le_refl _, Nat.le_refl _⟩ (fun H locs hP hD hS => ?_)
  have hP : va_P G vwCl (cat [[(h, .inr (5, [.ref (Ad 0), .ref (At 0), .ref (As 0), .ref (Ac 0), .ref (L 6 0)]))], dyW cyI Ad D, hiW cyI cyO L V]) H := hP
  have hD : va_D A9 (cat [[(h, .inr (5, [.ref (Ad 0), .ref (At 0), .ref (As 0), .ref (Ac 0), .ref (L 6 0)]))], dyW cyI Ad D, hiW cyI cyO L V]) := hD
  refine lv_aload_n hx hb dX5_come_4 rfl (lv_at hl 0 rfl) ?_
  refine va_get (v := .ref (Ad 0)) (C := RX5) (T := TX5) (N := 5) hx hb hts hinX5 hown hK hP 0 rfl rfl 0 (by decide) hf10 (fun _ h9 => h9) rfl dX5_come_5 ?_
  refine lv_iload_n hx hb dX5_come_8 rfl (lv_at hl 1 rfl) ?_
  refine gVi (gs := [[(h, .inr (5, [.ref (Ad 0), .ref (At 0), .ref (As 0), .ref (Ac 0), .ref (L 6 0)]))], dyW cyI Ad D, hiW cyI cyO L V]) (As := [.int (nI (k))]) (rest := []) ⟨hx, hb, hml, hown, hts⟩ (c_X1_mayCome l G cyI cyO Ad D k (by omega)) (cwV 1 hts gX5_come_X1_mayCome rfl rfl rfl (by decide +kernel) ⟨Nat.le_of_ble_eq_true rfl, Nat.le_of_ble_eq_true rfl⟩) hK hP hD hS hA [1] rfl rfl rfl 0 1 rfl rfl rfl hl.1 rfl (Nat.le_of_ble_eq_true rfl) dX5_come_9 ⟨Nat.le_refl _, Nat.le_refl _⟩ (fun H locs hP hD hS => ?_)
  have hP : va_P G vwCl (cat [[(h, .inr (5, [.ref (Ad 0), .ref (At 0), .ref (As 0), .ref (Ac 0), .ref (L 6 0)]))], dyW cyI Ad D, hiW cyI cyO L V]) H := hP
  have hD : va_D A9 (cat [[(h, .inr (5, [.ref (Ad 0), .ref (At 0), .ref (As 0), .ref (Ac 0), .ref (L 6 0)]))], dyW cyI Ad D, hiW cyI cyO L V]) := hD
  refine lv_if_ne (tgt := 25) hx hb dX5_come_12 (by decide) (fun c_12 => ?_) (fun c_12 => ?_)
  · have c_12 : (!dHO D && !decide (D.2.2.1 k = 1)) = true := bI_nz.mp c_12
    refine lv_aload_n hx hb dX5_come_25 rfl (lv_at hl 0 rfl) ?_
    refine va_get (v := .ref (L 6 0)) (C := RX5) (T := TX5) (N := 5) hx hb hts hinX5 hown hK hP 0 rfl rfl 4 (by decide) hf36 (fun _ h9 => h9) rfl dX5_come_26 ?_
    refine lv_aload_n hx hb dX5_come_29 rfl (lv_at hl 0 rfl) ?_
    refine va_get (v := .ref (Ad 0)) (C := RX5) (T := TX5) (N := 5) hx hb hts hinX5 hown hK hP 0 rfl rfl 0 (by decide) hf10 (fun _ h9 => h9) rfl dX5_come_30 ?_
    refine gVv (gs := [[(h, .inr (5, [.ref (Ad 0), .ref (At 0), .ref (As 0), .ref (Ac 0), .ref (L 6 0)]))], dyW cyI Ad D, hiW cyI cyO L V]) (As := [.ref (Ad 0)]) (rest := []) ⟨hx, hb, hml, hown, hts⟩ (c_X2_saveS l G cyI cyO L V Ad D (by omega)) (cwV 1 hts gX5_come_X2_save rfl rfl rfl (by decide +kernel) ⟨Nat.le_of_ble_eq_true rfl, Nat.le_of_ble_eq_true rfl⟩) hK hP hD hS hA [2, 1] rfl rfl rfl 0 2 rfl rfl rfl hl.1 rfl (Nat.le_of_ble_eq_true rfl) dX5_come_33 ⟨Nat.le_refl _, Nat.le_refl _⟩ (fun H locs hP hD hS => ?_)
    have hP : va_P G vwCl (cat [[(h, .inr (5, [.ref (Ad 0), .ref (At 0), .ref (As 0), .ref (Ac 0), .ref (L 6 0)]))], dyW cyI Ad D, hiW cyI cyO (svM L V) (svS V D)]) H := hP
    have hD : va_D A9 (cat [[(h, .inr (5, [.ref (Ad 0), .ref (At 0), .ref (As 0), .ref (Ac 0), .ref (L 6 0)]))], dyW cyI Ad D, hiW cyI cyO (svM L V) (svS V D)]) := hD
    refine lv_aload_n hx hb dX5_come_36 rfl (lv_at hl 0 rfl) ?_
    refine va_get (v := .ref (Ad 0)) (C := RX5) (T := TX5) (N := 5) hx hb hts hinX5 hown hK hP 0 rfl rfl 0 (by decide) hf10 (fun _ h9 => h9) rfl dX5_come_37 ?_
    refine lv_iload_n hx hb dX5_come_40 rfl (lv_at hl 1 rfl) ?_
    refine gVi (gs := [[(h, .inr (5, [.ref (Ad 0), .ref (At 0), .ref (As 0), .ref (Ac 0), .ref (L 6 0)]))], dyW cyI Ad D, hiW cyI cyO (svM L V) (svS V D)]) (As := [.int (nI (k))]) (rest := []) ⟨hx, hb, hml, hown, hts⟩ (c_X1_welcome l G cyI cyO Ad D k (by omega)) (cwV 1 hts gX5_come_X1_welcome rfl rfl rfl (by decide +kernel) ⟨Nat.le_of_ble_eq_true rfl, Nat.le_of_ble_eq_true rfl⟩) hK hP hD hS hA [1] rfl rfl rfl 0 1 rfl rfl rfl hl.1 rfl (Nat.le_of_ble_eq_true rfl) dX5_come_41 ⟨Nat.le_refl _, Nat.le_refl _⟩ (fun H locs hP hD hS => ?_)
    have hP : va_P G vwCl (cat [[(h, .inr (5, [.ref (Ad 0), .ref (At 0), .ref (As 0), .ref (Ac 0), .ref (L 6 0)]))], dyW cyI Ad ((D.1, D.2.1, upd D.2.2.1 k 1, D.2.2.2.1, D.2.2.2.2.1, D.2.2.2.2.2.1, D.2.2.2.2.2.2.1, D.2.2.2.2.2.2.2.1, D.2.2.2.2.2.2.2.2.1, D.2.2.2.2.2.2.2.2.2)), hiW cyI cyO (svM L V) (svS V D)]) H := hP
    have hD : va_D A9 (cat [[(h, .inr (5, [.ref (Ad 0), .ref (At 0), .ref (As 0), .ref (Ac 0), .ref (L 6 0)]))], dyW cyI Ad ((D.1, D.2.1, upd D.2.2.1 k 1, D.2.2.2.1, D.2.2.2.2.1, D.2.2.2.2.2.1, D.2.2.2.2.2.2.1, D.2.2.2.2.2.2.2.1, D.2.2.2.2.2.2.2.2.1, D.2.2.2.2.2.2.2.2.2)), hiW cyI cyO (svM L V) (svS V D)]) := hD
    have hP : va_P G vwCl (cat [[(h, .inr (5, [.ref (Ad 0), .ref (At 0), .ref (As 0), .ref (Ac 0), .ref (L 6 0)]))], dyW cyI Ad (dWel D k), hiW cyI cyO (svM L V) (svS V D)]) H := hP
    have hD : va_D A9 (cat [[(h, .inr (5, [.ref (Ad 0), .ref (At 0), .ref (As 0), .ref (Ac 0), .ref (L 6 0)]))], dyW cyI Ad (dWel D k), hiW cyI cyO (svM L V) (svS V D)]) := hD
    exact end_i hx hb hr hlocks hK hP hD hS (rfl) dX5_come_44
  · have c_12 : (!dHO D && !decide (D.2.2.1 k = 1)) = false := bI_z.mp c_12
    rw [hm] at c_12; cases c_12
abbrev rm_X5_leave : Room := { frames := 4, cells := 0, slots := 0, locals := 86 }
set_option maxHeartbeats 4000000 in
set_option maxRecDepth 100000 in
theorem c_X5_leave (l : Launch) (G : va_G) (cyI cyO : ClassId) (h : Nat) (Ad At As Ac : Nat → Nat) (L : Nat → Nat → Nat) (D : DS) (V : HS) (hn : D.2.2.2.2.2.1 ≤ 20) (hV : V.1 ≤ 6) (k : Nat) (hk : k < 6) (hm : (!dHO D && decide (D.2.2.1 k = 1)) = true) : CI l G (TY cyI cyO) yX5_leave wsX5_leave rm_X5_leave [.ref (h), .int (nI (k))] [[(h, .inr (5, [.ref (Ad 0), .ref (At 0), .ref (As 0), .ref (Ac 0), .ref (L 6 0)]))], dyW cyI Ad D, hiW cyI cyO L V] (nI ((dsAll D.2.1 D.2.2.2.2.2.1 (nI k)).2)) [[(h, .inr (5, [.ref (Ad 0), .ref (At 0), .ref (As 0), .ref (Ac 0), .ref (L 6 0)]))], dyW cyI Ad (dDis D k), hiW cyI cyO (svM L V) (svS V D)] := by
  refine wk_I (cc := cX5_leave) (maxL := 2) (ret := (some .int)) (by decide) rfl (Nat.le_of_ble_eq_true rfl) ?_
  intro p9 e9 s9 m9 b9 t9 c9 A9 ls hx hb hr hts hown hlocks hml hK hA hD hP hl hS hnm
  have hl : lv_has ls 2 [(0, .ref (h)), (1, .int (nI (k)))] := hl
  have hinX5 : ∀ w ∈ wsX50, w ∈ wsX5_leave := by decide +kernel
  have hf10 := hts (.fieldLink RX5 10 "DoorstepRounds" "dairy" "LDoorstepRounds$Dairy;") (by decide +kernel)
  have hf36 := hts (.fieldLink RX5 36 "DoorstepRounds" "history" "LDoorstepRounds$History;") (by decide +kernel)
  refine lv_iload_n hx hb dX5_leave_0 rfl (lv_at hl 1 rfl) ?_
  refine gSv (gs := [[(h, .inr (5, [.ref (Ad 0), .ref (At 0), .ref (As 0), .ref (Ac 0), .ref (L 6 0)]))], dyW cyI Ad D, hiW cyI cyO L V]) (As := [.int (nI (k))]) (rest := []) ⟨hx, hb, hml, hown, hts⟩ (c_X5_checkMilkman l G cyI cyO k (by omega)) (va_cwS 1 hts gX5_leave_X5_checkMilkman rfl rfl rfl (by decide +kernel) ⟨Nat.le_of_ble_eq_true rfl, Nat.le_of_ble_eq_true rfl⟩) hK hP hD hS hA [] rfl rfl rfl rfl hl.1 rfl (Nat.le_of_ble_eq_true rfl) dX5_leave_1 ⟨Nat.le_refl _, Nat.le_refl _⟩ (fun H locs hP hD hS => ?_)
  have hP : va_P G vwCl (cat [[(h, .inr (5, [.ref (Ad 0), .ref (At 0), .ref (As 0), .ref (Ac 0), .ref (L 6 0)]))], dyW cyI Ad D, hiW cyI cyO L V]) H := hP
  have hD : va_D A9 (cat [[(h, .inr (5, [.ref (Ad 0), .ref (At 0), .ref (As 0), .ref (Ac 0), .ref (L 6 0)]))], dyW cyI Ad D, hiW cyI cyO L V]) := hD
  refine lv_aload_n hx hb dX5_leave_4 rfl (lv_at hl 0 rfl) ?_
  refine va_get (v := .ref (Ad 0)) (C := RX5) (T := TX5) (N := 5) hx hb hts hinX5 hown hK hP 0 rfl rfl 0 (by decide) hf10 (fun _ h9 => h9) rfl dX5_leave_5 ?_
  refine lv_iload_n hx hb dX5_leave_8 rfl (lv_at hl 1 rfl) ?_
  refine gVi (gs := [[(h, .inr (5, [.ref (Ad 0), .ref (At 0), .ref (As 0), .ref (Ac 0), .ref (L 6 0)]))], dyW cyI Ad D, hiW cyI cyO L V]) (As := [.int (nI (k))]) (rest := []) ⟨hx, hb, hml, hown, hts⟩ (c_X1_mayLeave l G cyI cyO Ad D k (by omega)) (cwV 1 hts gX5_leave_X1_mayLeave rfl rfl rfl (by decide +kernel) ⟨Nat.le_of_ble_eq_true rfl, Nat.le_of_ble_eq_true rfl⟩) hK hP hD hS hA [1] rfl rfl rfl 0 1 rfl rfl rfl hl.1 rfl (Nat.le_of_ble_eq_true rfl) dX5_leave_9 ⟨Nat.le_refl _, Nat.le_refl _⟩ (fun H locs hP hD hS => ?_)
  have hP : va_P G vwCl (cat [[(h, .inr (5, [.ref (Ad 0), .ref (At 0), .ref (As 0), .ref (Ac 0), .ref (L 6 0)]))], dyW cyI Ad D, hiW cyI cyO L V]) H := hP
  have hD : va_D A9 (cat [[(h, .inr (5, [.ref (Ad 0), .ref (At 0), .ref (As 0), .ref (Ac 0), .ref (L 6 0)]))], dyW cyI Ad D, hiW cyI cyO L V]) := hD
  refine lv_if_ne (tgt := 25) hx hb dX5_leave_12 (by decide) (fun c_12 => ?_) (fun c_12 => ?_)
  · have c_12 : (!dHO D && decide (D.2.2.1 k = 1)) = true := bI_nz.mp c_12
    refine lv_aload_n hx hb dX5_leave_25 rfl (lv_at hl 0 rfl) ?_
    refine va_get (v := .ref (L 6 0)) (C := RX5) (T := TX5) (N := 5) hx hb hts hinX5 hown hK hP 0 rfl rfl 4 (by decide) hf36 (fun _ h9 => h9) rfl dX5_leave_26 ?_
    refine lv_aload_n hx hb dX5_leave_29 rfl (lv_at hl 0 rfl) ?_
    refine va_get (v := .ref (Ad 0)) (C := RX5) (T := TX5) (N := 5) hx hb hts hinX5 hown hK hP 0 rfl rfl 0 (by decide) hf10 (fun _ h9 => h9) rfl dX5_leave_30 ?_
    refine gVv (gs := [[(h, .inr (5, [.ref (Ad 0), .ref (At 0), .ref (As 0), .ref (Ac 0), .ref (L 6 0)]))], dyW cyI Ad D, hiW cyI cyO L V]) (As := [.ref (Ad 0)]) (rest := []) ⟨hx, hb, hml, hown, hts⟩ (c_X2_saveS l G cyI cyO L V Ad D (by omega)) (cwV 1 hts gX5_leave_X2_save rfl rfl rfl (by decide +kernel) ⟨Nat.le_of_ble_eq_true rfl, Nat.le_of_ble_eq_true rfl⟩) hK hP hD hS hA [2, 1] rfl rfl rfl 0 2 rfl rfl rfl hl.1 rfl (Nat.le_of_ble_eq_true rfl) dX5_leave_33 ⟨Nat.le_refl _, Nat.le_refl _⟩ (fun H locs hP hD hS => ?_)
    have hP : va_P G vwCl (cat [[(h, .inr (5, [.ref (Ad 0), .ref (At 0), .ref (As 0), .ref (Ac 0), .ref (L 6 0)]))], dyW cyI Ad D, hiW cyI cyO (svM L V) (svS V D)]) H := hP
    have hD : va_D A9 (cat [[(h, .inr (5, [.ref (Ad 0), .ref (At 0), .ref (As 0), .ref (Ac 0), .ref (L 6 0)]))], dyW cyI Ad D, hiW cyI cyO (svM L V) (svS V D)]) := hD
    refine lv_aload_n hx hb dX5_leave_36 rfl (lv_at hl 0 rfl) ?_
    refine va_get (v := .ref (Ad 0)) (C := RX5) (T := TX5) (N := 5) hx hb hts hinX5 hown hK hP 0 rfl rfl 0 (by decide) hf10 (fun _ h9 => h9) rfl dX5_leave_37 ?_
    refine lv_iload_n hx hb dX5_leave_40 rfl (lv_at hl 1 rfl) ?_
    refine gVi (gs := [[(h, .inr (5, [.ref (Ad 0), .ref (At 0), .ref (As 0), .ref (Ac 0), .ref (L 6 0)]))], dyW cyI Ad D, hiW cyI cyO (svM L V) (svS V D)]) (As := [.int (nI (k))]) (rest := []) ⟨hx, hb, hml, hown, hts⟩ (c_X1_dismiss l G cyI cyO Ad D k (by omega) (by omega)) (cwV 1 hts gX5_leave_X1_dismiss rfl rfl rfl (by decide +kernel) ⟨Nat.le_of_ble_eq_true rfl, Nat.le_of_ble_eq_true rfl⟩) hK hP hD hS hA [1] rfl rfl rfl 0 1 rfl rfl rfl hl.1 rfl (Nat.le_of_ble_eq_true rfl) dX5_leave_41 ⟨Nat.le_refl _, Nat.le_refl _⟩ (fun H locs hP hD hS => ?_)
    have hP : va_P G vwCl (cat [[(h, .inr (5, [.ref (Ad 0), .ref (At 0), .ref (As 0), .ref (Ac 0), .ref (L 6 0)]))], dyW cyI Ad ((D.1, (dsAll D.2.1 D.2.2.2.2.2.1 (nI k)).1, upd D.2.2.1 k 0, D.2.2.2.1, D.2.2.2.2.1, D.2.2.2.2.2.1, D.2.2.2.2.2.2.1, D.2.2.2.2.2.2.2.1, D.2.2.2.2.2.2.2.2.1, D.2.2.2.2.2.2.2.2.2)), hiW cyI cyO (svM L V) (svS V D)]) H := hP
    have hD : va_D A9 (cat [[(h, .inr (5, [.ref (Ad 0), .ref (At 0), .ref (As 0), .ref (Ac 0), .ref (L 6 0)]))], dyW cyI Ad ((D.1, (dsAll D.2.1 D.2.2.2.2.2.1 (nI k)).1, upd D.2.2.1 k 0, D.2.2.2.1, D.2.2.2.2.1, D.2.2.2.2.2.1, D.2.2.2.2.2.2.1, D.2.2.2.2.2.2.2.1, D.2.2.2.2.2.2.2.2.1, D.2.2.2.2.2.2.2.2.2)), hiW cyI cyO (svM L V) (svS V D)]) := hD
    have hP : va_P G vwCl (cat [[(h, .inr (5, [.ref (Ad 0), .ref (At 0), .ref (As 0), .ref (Ac 0), .ref (L 6 0)]))], dyW cyI Ad (dDis D k), hiW cyI cyO (svM L V) (svS V D)]) H := hP
    have hD : va_D A9 (cat [[(h, .inr (5, [.ref (Ad 0), .ref (At 0), .ref (As 0), .ref (Ac 0), .ref (L 6 0)]))], dyW cyI Ad (dDis D k), hiW cyI cyO (svM L V) (svS V D)]) := hD
    exact end_i hx hb hr hlocks hK hP hD hS (rfl) dX5_leave_44
  · have c_12 : (!dHO D && decide (D.2.2.1 k = 1)) = false := bI_z.mp c_12
    rw [hm] at c_12; cases c_12
abbrev rm_X5_pints : Room := { frames := 2, cells := 0, slots := 0, locals := 42 }
set_option maxHeartbeats 4000000 in
set_option maxRecDepth 100000 in
theorem c_X5_pints (l : Launch) (G : va_G) (cyI cyO : ClassId) (h : Nat) (Ad At As Ac : Nat → Nat) (L : Nat → Nat → Nat) (D : DS) (hn : D.2.2.2.2.2.1 ≤ 20) (k : Nat) (hk : k < D.2.2.2.2.2.1) : CI l G (TY cyI cyO) yX5_pints wsX5_pints rm_X5_pints [.ref (h), .int (nI (k))] [[(h, .inr (5, [.ref (Ad 0), .ref (At 0), .ref (As 0), .ref (Ac 0), .ref (L 6 0)]))], dyW cyI Ad D] (D.1 k) [[(h, .inr (5, [.ref (Ad 0), .ref (At 0), .ref (As 0), .ref (Ac 0), .ref (L 6 0)]))], dyW cyI Ad D] := by
  refine wk_I (cc := cX5_pints) (maxL := 2) (ret := (some .int)) (by decide) rfl (Nat.le_of_ble_eq_true rfl) ?_
  intro p9 e9 s9 m9 b9 t9 c9 A9 ls hx hb hr hts hown hlocks hml hK hA hD hP hl hS hnm
  have hl : lv_has ls 2 [(0, .ref (h)), (1, .int (nI (k)))] := hl
  have hinX5 : ∀ w ∈ wsX50, w ∈ wsX5_pints := by decide +kernel
  have hf10 := hts (.fieldLink RX5 10 "DoorstepRounds" "dairy" "LDoorstepRounds$Dairy;") (by decide +kernel)
  refine lv_aload_n hx hb dX5_pints_0 rfl (lv_at hl 0 rfl) ?_
  refine lv_iload_n hx hb dX5_pints_1 rfl (lv_at hl 1 rfl) ?_
  refine gVv (gs := [[(h, .inr (5, [.ref (Ad 0), .ref (At 0), .ref (As 0), .ref (Ac 0), .ref (L 6 0)]))], dyW cyI Ad D]) (As := [.int (nI (k))]) (rest := []) ⟨hx, hb, hml, hown, hts⟩ (c_X5_checkDoorstep l G cyI cyO h Ad At As Ac L D (by omega) k (by omega)) (cwV 1 hts gX5_pints_X5_checkDoorstep rfl rfl rfl (by decide +kernel) ⟨Nat.le_of_ble_eq_true rfl, Nat.le_of_ble_eq_true rfl⟩) hK hP hD hS hA [0, 1] rfl rfl rfl 0 5 rfl rfl rfl hl.1 rfl (Nat.le_of_ble_eq_true rfl) dX5_pints_2 ⟨Nat.le_refl _, Nat.le_refl _⟩ (fun H locs hP hD hS => ?_)
  have hP : va_P G vwCl (cat [[(h, .inr (5, [.ref (Ad 0), .ref (At 0), .ref (As 0), .ref (Ac 0), .ref (L 6 0)]))], dyW cyI Ad D]) H := hP
  have hD : va_D A9 (cat [[(h, .inr (5, [.ref (Ad 0), .ref (At 0), .ref (As 0), .ref (Ac 0), .ref (L 6 0)]))], dyW cyI Ad D]) := hD
  refine lv_aload_n hx hb dX5_pints_5 rfl (lv_at hl 0 rfl) ?_
  refine va_get (v := .ref (Ad 0)) (C := RX5) (T := TX5) (N := 5) hx hb hts hinX5 hown hK hP 0 rfl rfl 0 (by decide) hf10 (fun _ h9 => h9) rfl dX5_pints_6 ?_
  refine lv_iload_n hx hb dX5_pints_9 rfl (lv_at hl 1 rfl) ?_
  refine gVi (gs := [[(h, .inr (5, [.ref (Ad 0), .ref (At 0), .ref (As 0), .ref (Ac 0), .ref (L 6 0)]))], dyW cyI Ad D]) (As := [.int (nI (k))]) (rest := []) ⟨hx, hb, hml, hown, hts⟩ (c_X1_pintsOf l G cyI cyO Ad D k (by omega)) (cwV 1 hts gX5_pints_X1_pintsOf rfl rfl rfl (by decide +kernel) ⟨Nat.le_of_ble_eq_true rfl, Nat.le_of_ble_eq_true rfl⟩) hK hP hD hS hA [1] rfl rfl rfl 0 1 rfl rfl rfl hl.1 rfl (Nat.le_of_ble_eq_true rfl) dX5_pints_10 ⟨Nat.le_refl _, Nat.le_refl _⟩ (fun H locs hP hD hS => ?_)
  have hP : va_P G vwCl (cat [[(h, .inr (5, [.ref (Ad 0), .ref (At 0), .ref (As 0), .ref (Ac 0), .ref (L 6 0)]))], dyW cyI Ad D]) H := hP
  have hD : va_D A9 (cat [[(h, .inr (5, [.ref (Ad 0), .ref (At 0), .ref (As 0), .ref (Ac 0), .ref (L 6 0)]))], dyW cyI Ad D]) := hD
  have hP : va_P G vwCl (cat [[(h, .inr (5, [.ref (Ad 0), .ref (At 0), .ref (As 0), .ref (Ac 0), .ref (L 6 0)]))], dyW cyI Ad D]) H := hP
  have hD : va_D A9 (cat [[(h, .inr (5, [.ref (Ad 0), .ref (At 0), .ref (As 0), .ref (Ac 0), .ref (L 6 0)]))], dyW cyI Ad D]) := hD
  exact end_i hx hb hr hlocks hK hP hD hS (rfl) dX5_pints_13
abbrev rm_X5_owner : Room := { frames := 2, cells := 0, slots := 0, locals := 42 }
set_option maxHeartbeats 4000000 in
set_option maxRecDepth 100000 in
theorem c_X5_owner (l : Launch) (G : va_G) (cyI cyO : ClassId) (h : Nat) (Ad At As Ac : Nat → Nat) (L : Nat → Nat → Nat) (D : DS) (hn : D.2.2.2.2.2.1 ≤ 20) (k : Nat) (hk : k < D.2.2.2.2.2.1) : CI l G (TY cyI cyO) yX5_owner wsX5_owner rm_X5_owner [.ref (h), .int (nI (k))] [[(h, .inr (5, [.ref (Ad 0), .ref (At 0), .ref (As 0), .ref (Ac 0), .ref (L 6 0)]))], dyW cyI Ad D] (D.2.1 k) [[(h, .inr (5, [.ref (Ad 0), .ref (At 0), .ref (As 0), .ref (Ac 0), .ref (L 6 0)]))], dyW cyI Ad D] := by
  refine wk_I (cc := cX5_owner) (maxL := 2) (ret := (some .int)) (by decide) rfl (Nat.le_of_ble_eq_true rfl) ?_
  intro p9 e9 s9 m9 b9 t9 c9 A9 ls hx hb hr hts hown hlocks hml hK hA hD hP hl hS hnm
  have hl : lv_has ls 2 [(0, .ref (h)), (1, .int (nI (k)))] := hl
  have hinX5 : ∀ w ∈ wsX50, w ∈ wsX5_owner := by decide +kernel
  have hf10 := hts (.fieldLink RX5 10 "DoorstepRounds" "dairy" "LDoorstepRounds$Dairy;") (by decide +kernel)
  refine lv_aload_n hx hb dX5_owner_0 rfl (lv_at hl 0 rfl) ?_
  refine lv_iload_n hx hb dX5_owner_1 rfl (lv_at hl 1 rfl) ?_
  refine gVv (gs := [[(h, .inr (5, [.ref (Ad 0), .ref (At 0), .ref (As 0), .ref (Ac 0), .ref (L 6 0)]))], dyW cyI Ad D]) (As := [.int (nI (k))]) (rest := []) ⟨hx, hb, hml, hown, hts⟩ (c_X5_checkDoorstep l G cyI cyO h Ad At As Ac L D (by omega) k (by omega)) (cwV 1 hts gX5_owner_X5_checkDoorstep rfl rfl rfl (by decide +kernel) ⟨Nat.le_of_ble_eq_true rfl, Nat.le_of_ble_eq_true rfl⟩) hK hP hD hS hA [0, 1] rfl rfl rfl 0 5 rfl rfl rfl hl.1 rfl (Nat.le_of_ble_eq_true rfl) dX5_owner_2 ⟨Nat.le_refl _, Nat.le_refl _⟩ (fun H locs hP hD hS => ?_)
  have hP : va_P G vwCl (cat [[(h, .inr (5, [.ref (Ad 0), .ref (At 0), .ref (As 0), .ref (Ac 0), .ref (L 6 0)]))], dyW cyI Ad D]) H := hP
  have hD : va_D A9 (cat [[(h, .inr (5, [.ref (Ad 0), .ref (At 0), .ref (As 0), .ref (Ac 0), .ref (L 6 0)]))], dyW cyI Ad D]) := hD
  refine lv_aload_n hx hb dX5_owner_5 rfl (lv_at hl 0 rfl) ?_
  refine va_get (v := .ref (Ad 0)) (C := RX5) (T := TX5) (N := 5) hx hb hts hinX5 hown hK hP 0 rfl rfl 0 (by decide) hf10 (fun _ h9 => h9) rfl dX5_owner_6 ?_
  refine lv_iload_n hx hb dX5_owner_9 rfl (lv_at hl 1 rfl) ?_
  refine gVi (gs := [[(h, .inr (5, [.ref (Ad 0), .ref (At 0), .ref (As 0), .ref (Ac 0), .ref (L 6 0)]))], dyW cyI Ad D]) (As := [.int (nI (k))]) (rest := []) ⟨hx, hb, hml, hown, hts⟩ (c_X1_ownerOf l G cyI cyO Ad D k (by omega)) (cwV 1 hts gX5_owner_X1_ownerOf rfl rfl rfl (by decide +kernel) ⟨Nat.le_of_ble_eq_true rfl, Nat.le_of_ble_eq_true rfl⟩) hK hP hD hS hA [1] rfl rfl rfl 0 1 rfl rfl rfl hl.1 rfl (Nat.le_of_ble_eq_true rfl) dX5_owner_10 ⟨Nat.le_refl _, Nat.le_refl _⟩ (fun H locs hP hD hS => ?_)
  have hP : va_P G vwCl (cat [[(h, .inr (5, [.ref (Ad 0), .ref (At 0), .ref (As 0), .ref (Ac 0), .ref (L 6 0)]))], dyW cyI Ad D]) H := hP
  have hD : va_D A9 (cat [[(h, .inr (5, [.ref (Ad 0), .ref (At 0), .ref (As 0), .ref (Ac 0), .ref (L 6 0)]))], dyW cyI Ad D]) := hD
  have hP : va_P G vwCl (cat [[(h, .inr (5, [.ref (Ad 0), .ref (At 0), .ref (As 0), .ref (Ac 0), .ref (L 6 0)]))], dyW cyI Ad D]) H := hP
  have hD : va_D A9 (cat [[(h, .inr (5, [.ref (Ad 0), .ref (At 0), .ref (As 0), .ref (Ac 0), .ref (L 6 0)]))], dyW cyI Ad D]) := hD
  exact end_i hx hb hr hlocks hK hP hD hS (rfl) dX5_owner_13
abbrev rm_X5_isAtWork : Room := { frames := 2, cells := 0, slots := 0, locals := 42 }
set_option maxHeartbeats 4000000 in
set_option maxRecDepth 100000 in
theorem c_X5_isAtWork (l : Launch) (G : va_G) (cyI cyO : ClassId) (h : Nat) (Ad At As Ac : Nat → Nat) (L : Nat → Nat → Nat) (D : DS) (k : Nat) (hk : k < 6) : CI l G (TY cyI cyO) yX5_isAtWork wsX5_isAtWork rm_X5_isAtWork [.ref (h), .int (nI (k))] [[(h, .inr (5, [.ref (Ad 0), .ref (At 0), .ref (As 0), .ref (Ac 0), .ref (L 6 0)]))], dyW cyI Ad D] (bI (decide (D.2.2.1 k = 1))) [[(h, .inr (5, [.ref (Ad 0), .ref (At 0), .ref (As 0), .ref (Ac 0), .ref (L 6 0)]))], dyW cyI Ad D] := by
  refine wk_I (cc := cX5_isAtWork) (maxL := 2) (ret := (some .boolean)) (by decide) rfl (Nat.le_of_ble_eq_true rfl) ?_
  intro p9 e9 s9 m9 b9 t9 c9 A9 ls hx hb hr hts hown hlocks hml hK hA hD hP hl hS hnm
  have hl : lv_has ls 2 [(0, .ref (h)), (1, .int (nI (k)))] := hl
  have hinX5 : ∀ w ∈ wsX50, w ∈ wsX5_isAtWork := by decide +kernel
  have hf10 := hts (.fieldLink RX5 10 "DoorstepRounds" "dairy" "LDoorstepRounds$Dairy;") (by decide +kernel)
  refine lv_iload_n hx hb dX5_isAtWork_0 rfl (lv_at hl 1 rfl) ?_
  refine gSv (gs := [[(h, .inr (5, [.ref (Ad 0), .ref (At 0), .ref (As 0), .ref (Ac 0), .ref (L 6 0)]))], dyW cyI Ad D]) (As := [.int (nI (k))]) (rest := []) ⟨hx, hb, hml, hown, hts⟩ (c_X5_checkMilkman l G cyI cyO k (by omega)) (va_cwS 1 hts gX5_isAtWork_X5_checkMilkman rfl rfl rfl (by decide +kernel) ⟨Nat.le_of_ble_eq_true rfl, Nat.le_of_ble_eq_true rfl⟩) hK hP hD hS hA [] rfl rfl rfl rfl hl.1 rfl (Nat.le_of_ble_eq_true rfl) dX5_isAtWork_1 ⟨Nat.le_refl _, Nat.le_refl _⟩ (fun H locs hP hD hS => ?_)
  have hP : va_P G vwCl (cat [[(h, .inr (5, [.ref (Ad 0), .ref (At 0), .ref (As 0), .ref (Ac 0), .ref (L 6 0)]))], dyW cyI Ad D]) H := hP
  have hD : va_D A9 (cat [[(h, .inr (5, [.ref (Ad 0), .ref (At 0), .ref (As 0), .ref (Ac 0), .ref (L 6 0)]))], dyW cyI Ad D]) := hD
  refine lv_aload_n hx hb dX5_isAtWork_4 rfl (lv_at hl 0 rfl) ?_
  refine va_get (v := .ref (Ad 0)) (C := RX5) (T := TX5) (N := 5) hx hb hts hinX5 hown hK hP 0 rfl rfl 0 (by decide) hf10 (fun _ h9 => h9) rfl dX5_isAtWork_5 ?_
  refine lv_iload_n hx hb dX5_isAtWork_8 rfl (lv_at hl 1 rfl) ?_
  refine gVi (gs := [[(h, .inr (5, [.ref (Ad 0), .ref (At 0), .ref (As 0), .ref (Ac 0), .ref (L 6 0)]))], dyW cyI Ad D]) (As := [.int (nI (k))]) (rest := []) ⟨hx, hb, hml, hown, hts⟩ (c_X1_works l G cyI cyO Ad D k (by omega)) (cwV 1 hts gX5_isAtWork_X1_works rfl rfl rfl (by decide +kernel) ⟨Nat.le_of_ble_eq_true rfl, Nat.le_of_ble_eq_true rfl⟩) hK hP hD hS hA [1] rfl rfl rfl 0 1 rfl rfl rfl hl.1 rfl (Nat.le_of_ble_eq_true rfl) dX5_isAtWork_9 ⟨Nat.le_refl _, Nat.le_refl _⟩ (fun H locs hP hD hS => ?_)
  have hP : va_P G vwCl (cat [[(h, .inr (5, [.ref (Ad 0), .ref (At 0), .ref (As 0), .ref (Ac 0), .ref (L 6 0)]))], dyW cyI Ad D]) H := hP
  have hD : va_D A9 (cat [[(h, .inr (5, [.ref (Ad 0), .ref (At 0), .ref (As 0), .ref (Ac 0), .ref (L 6 0)]))], dyW cyI Ad D]) := hD
  have hP : va_P G vwCl (cat [[(h, .inr (5, [.ref (Ad 0), .ref (At 0), .ref (As 0), .ref (Ac 0), .ref (L 6 0)]))], dyW cyI Ad D]) H := hP
  have hD : va_D A9 (cat [[(h, .inr (5, [.ref (Ad 0), .ref (At 0), .ref (As 0), .ref (Ac 0), .ref (L 6 0)]))], dyW cyI Ad D]) := hD
  exact end_z hx hb hr hlocks hK hP hD hS (rfl) (bI_01 _) dX5_isAtWork_12
abbrev rm_X5_size : Room := { frames := 2, cells := 0, slots := 0, locals := 44 }
set_option maxHeartbeats 4000000 in
set_option maxRecDepth 100000 in
theorem c_X5_size (l : Launch) (G : va_G) (cyI cyO : ClassId) (h : Nat) (Ad At As Ac : Nat → Nat) (L : Nat → Nat → Nat) (D : DS) (hn : D.2.2.2.2.2.1 ≤ 20) (k : Nat) (hk : k < 6) : CI l G (TY cyI cyO) yX5_size wsX5_size rm_X5_size [.ref (h), .int (nI (k))] [[(h, .inr (5, [.ref (Ad 0), .ref (At 0), .ref (As 0), .ref (Ac 0), .ref (L 6 0)]))], dyW cyI Ad D] (nI (rSz D.2.1 D.2.2.2.2.2.1 (nI k))) [[(h, .inr (5, [.ref (Ad 0), .ref (At 0), .ref (As 0), .ref (Ac 0), .ref (L 6 0)]))], dyW cyI Ad D] := by
  refine wk_I (cc := cX5_size) (maxL := 2) (ret := (some .int)) (by decide) rfl (Nat.le_of_ble_eq_true rfl) ?_
  intro p9 e9 s9 m9 b9 t9 c9 A9 ls hx hb hr hts hown hlocks hml hK hA hD hP hl hS hnm
  have hl : lv_has ls 2 [(0, .ref (h)), (1, .int (nI (k)))] := hl
  have hinX5 : ∀ w ∈ wsX50, w ∈ wsX5_size := by decide +kernel
  have hf10 := hts (.fieldLink RX5 10 "DoorstepRounds" "dairy" "LDoorstepRounds$Dairy;") (by decide +kernel)
  refine lv_iload_n hx hb dX5_size_0 rfl (lv_at hl 1 rfl) ?_
  refine gSv (gs := [[(h, .inr (5, [.ref (Ad 0), .ref (At 0), .ref (As 0), .ref (Ac 0), .ref (L 6 0)]))], dyW cyI Ad D]) (As := [.int (nI (k))]) (rest := []) ⟨hx, hb, hml, hown, hts⟩ (c_X5_checkMilkman l G cyI cyO k (by omega)) (va_cwS 1 hts gX5_size_X5_checkMilkman rfl rfl rfl (by decide +kernel) ⟨Nat.le_of_ble_eq_true rfl, Nat.le_of_ble_eq_true rfl⟩) hK hP hD hS hA [] rfl rfl rfl rfl hl.1 rfl (Nat.le_of_ble_eq_true rfl) dX5_size_1 ⟨Nat.le_refl _, Nat.le_refl _⟩ (fun H locs hP hD hS => ?_)
  have hP : va_P G vwCl (cat [[(h, .inr (5, [.ref (Ad 0), .ref (At 0), .ref (As 0), .ref (Ac 0), .ref (L 6 0)]))], dyW cyI Ad D]) H := hP
  have hD : va_D A9 (cat [[(h, .inr (5, [.ref (Ad 0), .ref (At 0), .ref (As 0), .ref (Ac 0), .ref (L 6 0)]))], dyW cyI Ad D]) := hD
  refine lv_aload_n hx hb dX5_size_4 rfl (lv_at hl 0 rfl) ?_
  refine va_get (v := .ref (Ad 0)) (C := RX5) (T := TX5) (N := 5) hx hb hts hinX5 hown hK hP 0 rfl rfl 0 (by decide) hf10 (fun _ h9 => h9) rfl dX5_size_5 ?_
  refine lv_iload_n hx hb dX5_size_8 rfl (lv_at hl 1 rfl) ?_
  refine gVi (gs := [[(h, .inr (5, [.ref (Ad 0), .ref (At 0), .ref (As 0), .ref (Ac 0), .ref (L 6 0)]))], dyW cyI Ad D]) (As := [.int (nI (k))]) (rest := []) ⟨hx, hb, hml, hown, hts⟩ (c_X1_roundSize l G cyI cyO Ad D (nI (k)) (by omega)) (cwV 1 hts gX5_size_X1_roundSize rfl rfl rfl (by decide +kernel) ⟨Nat.le_of_ble_eq_true rfl, Nat.le_of_ble_eq_true rfl⟩) hK hP hD hS hA [1] rfl rfl rfl 0 1 rfl rfl rfl hl.1 rfl (Nat.le_of_ble_eq_true rfl) dX5_size_9 ⟨Nat.le_refl _, Nat.le_refl _⟩ (fun H locs hP hD hS => ?_)
  have hP : va_P G vwCl (cat [[(h, .inr (5, [.ref (Ad 0), .ref (At 0), .ref (As 0), .ref (Ac 0), .ref (L 6 0)]))], dyW cyI Ad D]) H := hP
  have hD : va_D A9 (cat [[(h, .inr (5, [.ref (Ad 0), .ref (At 0), .ref (As 0), .ref (Ac 0), .ref (L 6 0)]))], dyW cyI Ad D]) := hD
  have hP : va_P G vwCl (cat [[(h, .inr (5, [.ref (Ad 0), .ref (At 0), .ref (As 0), .ref (Ac 0), .ref (L 6 0)]))], dyW cyI Ad D]) H := hP
  have hD : va_D A9 (cat [[(h, .inr (5, [.ref (Ad 0), .ref (At 0), .ref (As 0), .ref (Ac 0), .ref (L 6 0)]))], dyW cyI Ad D]) := hD
  exact end_i hx hb hr hlocks hK hP hD hS (rfl) dX5_size_12
abbrev rm_X5_load : Room := { frames := 2, cells := 0, slots := 0, locals := 44 }
set_option maxHeartbeats 4000000 in
set_option maxRecDepth 100000 in
theorem c_X5_load (l : Launch) (G : va_G) (cyI cyO : ClassId) (h : Nat) (Ad At As Ac : Nat → Nat) (L : Nat → Nat → Nat) (D : DS) (hn : D.2.2.2.2.2.1 ≤ 20) (k : Nat) (hk : k < 6) : CI l G (TY cyI cyO) yX5_load wsX5_load rm_X5_load [.ref (h), .int (nI (k))] [[(h, .inr (5, [.ref (Ad 0), .ref (At 0), .ref (As 0), .ref (Ac 0), .ref (L 6 0)]))], dyW cyI Ad D] (rLd D.1 D.2.1 D.2.2.2.2.2.1 (nI k)) [[(h, .inr (5, [.ref (Ad 0), .ref (At 0), .ref (As 0), .ref (Ac 0), .ref (L 6 0)]))], dyW cyI Ad D] := by
  refine wk_I (cc := cX5_load) (maxL := 2) (ret := (some .int)) (by decide) rfl (Nat.le_of_ble_eq_true rfl) ?_
  intro p9 e9 s9 m9 b9 t9 c9 A9 ls hx hb hr hts hown hlocks hml hK hA hD hP hl hS hnm
  have hl : lv_has ls 2 [(0, .ref (h)), (1, .int (nI (k)))] := hl
  have hinX5 : ∀ w ∈ wsX50, w ∈ wsX5_load := by decide +kernel
  have hf10 := hts (.fieldLink RX5 10 "DoorstepRounds" "dairy" "LDoorstepRounds$Dairy;") (by decide +kernel)
  refine lv_iload_n hx hb dX5_load_0 rfl (lv_at hl 1 rfl) ?_
  refine gSv (gs := [[(h, .inr (5, [.ref (Ad 0), .ref (At 0), .ref (As 0), .ref (Ac 0), .ref (L 6 0)]))], dyW cyI Ad D]) (As := [.int (nI (k))]) (rest := []) ⟨hx, hb, hml, hown, hts⟩ (c_X5_checkMilkman l G cyI cyO k (by omega)) (va_cwS 1 hts gX5_load_X5_checkMilkman rfl rfl rfl (by decide +kernel) ⟨Nat.le_of_ble_eq_true rfl, Nat.le_of_ble_eq_true rfl⟩) hK hP hD hS hA [] rfl rfl rfl rfl hl.1 rfl (Nat.le_of_ble_eq_true rfl) dX5_load_1 ⟨Nat.le_refl _, Nat.le_refl _⟩ (fun H locs hP hD hS => ?_)
  have hP : va_P G vwCl (cat [[(h, .inr (5, [.ref (Ad 0), .ref (At 0), .ref (As 0), .ref (Ac 0), .ref (L 6 0)]))], dyW cyI Ad D]) H := hP
  have hD : va_D A9 (cat [[(h, .inr (5, [.ref (Ad 0), .ref (At 0), .ref (As 0), .ref (Ac 0), .ref (L 6 0)]))], dyW cyI Ad D]) := hD
  refine lv_aload_n hx hb dX5_load_4 rfl (lv_at hl 0 rfl) ?_
  refine va_get (v := .ref (Ad 0)) (C := RX5) (T := TX5) (N := 5) hx hb hts hinX5 hown hK hP 0 rfl rfl 0 (by decide) hf10 (fun _ h9 => h9) rfl dX5_load_5 ?_
  refine lv_iload_n hx hb dX5_load_8 rfl (lv_at hl 1 rfl) ?_
  refine gVi (gs := [[(h, .inr (5, [.ref (Ad 0), .ref (At 0), .ref (As 0), .ref (Ac 0), .ref (L 6 0)]))], dyW cyI Ad D]) (As := [.int (nI (k))]) (rest := []) ⟨hx, hb, hml, hown, hts⟩ (c_X1_roundLoad l G cyI cyO Ad D (nI (k)) (by omega)) (cwV 1 hts gX5_load_X1_roundLoad rfl rfl rfl (by decide +kernel) ⟨Nat.le_of_ble_eq_true rfl, Nat.le_of_ble_eq_true rfl⟩) hK hP hD hS hA [1] rfl rfl rfl 0 1 rfl rfl rfl hl.1 rfl (Nat.le_of_ble_eq_true rfl) dX5_load_9 ⟨Nat.le_refl _, Nat.le_refl _⟩ (fun H locs hP hD hS => ?_)
  have hP : va_P G vwCl (cat [[(h, .inr (5, [.ref (Ad 0), .ref (At 0), .ref (As 0), .ref (Ac 0), .ref (L 6 0)]))], dyW cyI Ad D]) H := hP
  have hD : va_D A9 (cat [[(h, .inr (5, [.ref (Ad 0), .ref (At 0), .ref (As 0), .ref (Ac 0), .ref (L 6 0)]))], dyW cyI Ad D]) := hD
  have hP : va_P G vwCl (cat [[(h, .inr (5, [.ref (Ad 0), .ref (At 0), .ref (As 0), .ref (Ac 0), .ref (L 6 0)]))], dyW cyI Ad D]) H := hP
  have hD : va_D A9 (cat [[(h, .inr (5, [.ref (Ad 0), .ref (At 0), .ref (As 0), .ref (Ac 0), .ref (L 6 0)]))], dyW cyI Ad D]) := hD
  exact end_i hx hb hr hlocks hK hP hD hS (rfl) dX5_load_12
abbrev rm_X5_plan : Room := { frames := 5, cells := 0, slots := 0, locals := 113 }
set_option maxHeartbeats 4000000 in
set_option maxRecDepth 100000 in
theorem c_X5_plan (l : Launch) (G : va_G) (cyI cyO : ClassId) (h : Nat) (Ad At As Ac : Nat → Nat) (L : Nat → Nat → Nat) (S : SS) (D : DS) (V : HS) (hn : D.2.2.2.2.2.1 ≤ 20) (hV : V.1 ≤ 6) (hm : (!dHO D && decide (0 < cW D.2.2.1)) = true) : CI l G (TY cyI cyO) yX5_plan wsX5_plan rm_X5_plan [.ref (h)] [[(h, .inr (5, [.ref (Ad 0), .ref (At 0), .ref (As 0), .ref (Ac 0), .ref (L 6 0)]))], shW cyI As S, dyW cyI Ad D, hiW cyI cyO L V] (shRes S D) [[(h, .inr (5, [.ref (Ad 0), .ref (At 0), .ref (As 0), .ref (Ac 0), .ref (L 6 0)]))], shW cyI As (shOut S D), dyW cyI Ad (mpD S D), hiW cyI cyO (svM L V) (svS V D)] := by
  refine wk_I (cc := cX5_plan) (maxL := 1) (ret := (some .int)) (by decide) rfl (Nat.le_of_ble_eq_true rfl) ?_
  intro p9 e9 s9 m9 b9 t9 c9 A9 ls hx hb hr hts hown hlocks hml hK hA hD hP hl hS hnm
  have hl : lv_has ls 1 [(0, .ref (h))] := hl
  have hinX5 : ∀ w ∈ wsX50, w ∈ wsX5_plan := by decide +kernel
  have hf10 := hts (.fieldLink RX5 10 "DoorstepRounds" "dairy" "LDoorstepRounds$Dairy;") (by decide +kernel)
  have hf36 := hts (.fieldLink RX5 36 "DoorstepRounds" "history" "LDoorstepRounds$History;") (by decide +kernel)
  refine lv_aload_n hx hb dX5_plan_0 rfl (lv_at hl 0 rfl) ?_
  refine va_get (v := .ref (Ad 0)) (C := RX5) (T := TX5) (N := 5) hx hb hts hinX5 hown hK hP 0 rfl rfl 0 (by decide) hf10 (fun _ h9 => h9) rfl dX5_plan_1 ?_
  refine gVi (gs := [[(h, .inr (5, [.ref (Ad 0), .ref (At 0), .ref (As 0), .ref (Ac 0), .ref (L 6 0)]))], shW cyI As S, dyW cyI Ad D, hiW cyI cyO L V]) (As := []) (rest := []) ⟨hx, hb, hml, hown, hts⟩ (c_X1_mayPlan l G cyI cyO Ad D) (cwV 0 hts gX5_plan_X1_mayPlan rfl rfl rfl (by decide +kernel) ⟨Nat.le_of_ble_eq_true rfl, Nat.le_of_ble_eq_true rfl⟩) hK hP hD hS hA [2] rfl rfl rfl 0 1 rfl rfl rfl hl.1 rfl (Nat.le_of_ble_eq_true rfl) dX5_plan_4 ⟨Nat.le_refl _, Nat.le_refl _⟩ (fun H locs hP hD hS => ?_)
  have hP : va_P G vwCl (cat [[(h, .inr (5, [.ref (Ad 0), .ref (At 0), .ref (As 0), .ref (Ac 0), .ref (L 6 0)]))], shW cyI As S, dyW cyI Ad D, hiW cyI cyO L V]) H := hP
  have hD : va_D A9 (cat [[(h, .inr (5, [.ref (Ad 0), .ref (At 0), .ref (As 0), .ref (Ac 0), .ref (L 6 0)]))], shW cyI As S, dyW cyI Ad D, hiW cyI cyO L V]) := hD
  refine lv_if_ne (tgt := 20) hx hb dX5_plan_7 (by decide) (fun c_7 => ?_) (fun c_7 => ?_)
  · have c_7 : (!dHO D && decide (0 < cW D.2.2.1)) = true := bI_nz.mp c_7
    refine lv_aload_n hx hb dX5_plan_20 rfl (lv_at hl 0 rfl) ?_
    refine va_get (v := .ref (L 6 0)) (C := RX5) (T := TX5) (N := 5) hx hb hts hinX5 hown hK hP 0 rfl rfl 4 (by decide) hf36 (fun _ h9 => h9) rfl dX5_plan_21 ?_
    refine lv_aload_n hx hb dX5_plan_24 rfl (lv_at hl 0 rfl) ?_
    refine va_get (v := .ref (Ad 0)) (C := RX5) (T := TX5) (N := 5) hx hb hts hinX5 hown hK hP 0 rfl rfl 0 (by decide) hf10 (fun _ h9 => h9) rfl dX5_plan_25 ?_
    refine gVv (gs := [[(h, .inr (5, [.ref (Ad 0), .ref (At 0), .ref (As 0), .ref (Ac 0), .ref (L 6 0)]))], shW cyI As S, dyW cyI Ad D, hiW cyI cyO L V]) (As := [.ref (Ad 0)]) (rest := []) ⟨hx, hb, hml, hown, hts⟩ (c_X2_saveS l G cyI cyO L V Ad D (by omega)) (cwV 1 hts gX5_plan_X2_save rfl rfl rfl (by decide +kernel) ⟨Nat.le_of_ble_eq_true rfl, Nat.le_of_ble_eq_true rfl⟩) hK hP hD hS hA [3, 2] rfl rfl rfl 0 2 rfl rfl rfl hl.1 rfl (Nat.le_of_ble_eq_true rfl) dX5_plan_28 ⟨Nat.le_refl _, Nat.le_refl _⟩ (fun H locs hP hD hS => ?_)
    have hP : va_P G vwCl (cat [[(h, .inr (5, [.ref (Ad 0), .ref (At 0), .ref (As 0), .ref (Ac 0), .ref (L 6 0)]))], shW cyI As S, dyW cyI Ad D, hiW cyI cyO (svM L V) (svS V D)]) H := hP
    have hD : va_D A9 (cat [[(h, .inr (5, [.ref (Ad 0), .ref (At 0), .ref (As 0), .ref (Ac 0), .ref (L 6 0)]))], shW cyI As S, dyW cyI Ad D, hiW cyI cyO (svM L V) (svS V D)]) := hD
    refine lv_aload_n hx hb dX5_plan_31 rfl (lv_at hl 0 rfl) ?_
    refine gVi (gs := [[(h, .inr (5, [.ref (Ad 0), .ref (At 0), .ref (As 0), .ref (Ac 0), .ref (L 6 0)]))], shW cyI As S, dyW cyI Ad D, hiW cyI cyO (svM L V) (svS V D)]) (As := []) (rest := []) ⟨hx, hb, hml, hown, hts⟩ (c_X5_makePlan l G cyI cyO h Ad At As Ac L S D (by omega)) (cwV 0 hts gX5_plan_X5_makePlan rfl rfl rfl (by decide +kernel) ⟨Nat.le_of_ble_eq_true rfl, Nat.le_of_ble_eq_true rfl⟩) hK hP hD hS hA [0, 1, 2] rfl rfl rfl 0 5 rfl rfl rfl hl.1 rfl (Nat.le_of_ble_eq_true rfl) dX5_plan_32 ⟨Nat.le_refl _, Nat.le_refl _⟩ (fun H locs hP hD hS => ?_)
    have hP : va_P G vwCl (cat [[(h, .inr (5, [.ref (Ad 0), .ref (At 0), .ref (As 0), .ref (Ac 0), .ref (L 6 0)]))], shW cyI As (shOut S D), dyW cyI Ad (mpD S D), hiW cyI cyO (svM L V) (svS V D)]) H := hP
    have hD : va_D A9 (cat [[(h, .inr (5, [.ref (Ad 0), .ref (At 0), .ref (As 0), .ref (Ac 0), .ref (L 6 0)]))], shW cyI As (shOut S D), dyW cyI Ad (mpD S D), hiW cyI cyO (svM L V) (svS V D)]) := hD
    have hP : va_P G vwCl (cat [[(h, .inr (5, [.ref (Ad 0), .ref (At 0), .ref (As 0), .ref (Ac 0), .ref (L 6 0)]))], shW cyI As (shOut S D), dyW cyI Ad (mpD S D), hiW cyI cyO (svM L V) (svS V D)]) H := hP
    have hD : va_D A9 (cat [[(h, .inr (5, [.ref (Ad 0), .ref (At 0), .ref (As 0), .ref (Ac 0), .ref (L 6 0)]))], shW cyI As (shOut S D), dyW cyI Ad (mpD S D), hiW cyI cyO (svM L V) (svS V D)]) := hD
    exact end_i hx hb hr hlocks hK hP hD hS (rfl) dX5_plan_35
  · have c_7 : (!dHO D && decide (0 < cW D.2.2.1)) = false := bI_z.mp c_7
    rw [hm] at c_7; cases c_7
abbrev rm_X5_handOver : Room := { frames := 4, cells := 0, slots := 0, locals := 86 }
set_option maxHeartbeats 4000000 in
set_option maxRecDepth 100000 in
theorem c_X5_handOver (l : Launch) (G : va_G) (cyI cyO : ClassId) (h : Nat) (Ad At As Ac : Nat → Nat) (L : Nat → Nat → Nat) (D : DS) (V : HS) (hn : D.2.2.2.2.2.1 ≤ 20) (hV : V.1 ≤ 6) (hm : dHO D = true) : CI l G (TY cyI cyO) yX5_handOver wsX5_handOver rm_X5_handOver [.ref (h)] [[(h, .inr (5, [.ref (Ad 0), .ref (At 0), .ref (As 0), .ref (Ac 0), .ref (L 6 0)]))], dyW cyI Ad D, hiW cyI cyO L V] (nI (dNextR D)) [[(h, .inr (5, [.ref (Ad 0), .ref (At 0), .ref (As 0), .ref (Ac 0), .ref (L 6 0)]))], dyW cyI Ad (dNext D), hiW cyI cyO (svM L V) (svS V D)] := by
  refine wk_I (cc := cX5_handOver) (maxL := 1) (ret := (some .int)) (by decide) rfl (Nat.le_of_ble_eq_true rfl) ?_
  intro p9 e9 s9 m9 b9 t9 c9 A9 ls hx hb hr hts hown hlocks hml hK hA hD hP hl hS hnm
  have hl : lv_has ls 1 [(0, .ref (h))] := hl
  have hinX5 : ∀ w ∈ wsX50, w ∈ wsX5_handOver := by decide +kernel
  have hf10 := hts (.fieldLink RX5 10 "DoorstepRounds" "dairy" "LDoorstepRounds$Dairy;") (by decide +kernel)
  have hf36 := hts (.fieldLink RX5 36 "DoorstepRounds" "history" "LDoorstepRounds$History;") (by decide +kernel)
  refine lv_aload_n hx hb dX5_handOver_0 rfl (lv_at hl 0 rfl) ?_
  refine va_get (v := .ref (Ad 0)) (C := RX5) (T := TX5) (N := 5) hx hb hts hinX5 hown hK hP 0 rfl rfl 0 (by decide) hf10 (fun _ h9 => h9) rfl dX5_handOver_1 ?_
  refine gVi (gs := [[(h, .inr (5, [.ref (Ad 0), .ref (At 0), .ref (As 0), .ref (Ac 0), .ref (L 6 0)]))], dyW cyI Ad D, hiW cyI cyO L V]) (As := []) (rest := []) ⟨hx, hb, hml, hown, hts⟩ (c_X1_isHandingOver l G cyI cyO Ad D) (cwV 0 hts gX5_handOver_X1_isHandingOver rfl rfl rfl (by decide +kernel) ⟨Nat.le_of_ble_eq_true rfl, Nat.le_of_ble_eq_true rfl⟩) hK hP hD hS hA [1] rfl rfl rfl 0 1 rfl rfl rfl hl.1 rfl (Nat.le_of_ble_eq_true rfl) dX5_handOver_4 ⟨Nat.le_refl _, Nat.le_refl _⟩ (fun H locs hP hD hS => ?_)
  have hP : va_P G vwCl (cat [[(h, .inr (5, [.ref (Ad 0), .ref (At 0), .ref (As 0), .ref (Ac 0), .ref (L 6 0)]))], dyW cyI Ad D, hiW cyI cyO L V]) H := hP
  have hD : va_D A9 (cat [[(h, .inr (5, [.ref (Ad 0), .ref (At 0), .ref (As 0), .ref (Ac 0), .ref (L 6 0)]))], dyW cyI Ad D, hiW cyI cyO L V]) := hD
  refine lv_if_ne (tgt := 20) hx hb dX5_handOver_7 (by decide) (fun c_7 => ?_) (fun c_7 => ?_)
  · have c_7 : (dHO D) = true := bI_nz.mp c_7
    refine lv_aload_n hx hb dX5_handOver_20 rfl (lv_at hl 0 rfl) ?_
    refine va_get (v := .ref (L 6 0)) (C := RX5) (T := TX5) (N := 5) hx hb hts hinX5 hown hK hP 0 rfl rfl 4 (by decide) hf36 (fun _ h9 => h9) rfl dX5_handOver_21 ?_
    refine lv_aload_n hx hb dX5_handOver_24 rfl (lv_at hl 0 rfl) ?_
    refine va_get (v := .ref (Ad 0)) (C := RX5) (T := TX5) (N := 5) hx hb hts hinX5 hown hK hP 0 rfl rfl 0 (by decide) hf10 (fun _ h9 => h9) rfl dX5_handOver_25 ?_
    refine gVv (gs := [[(h, .inr (5, [.ref (Ad 0), .ref (At 0), .ref (As 0), .ref (Ac 0), .ref (L 6 0)]))], dyW cyI Ad D, hiW cyI cyO L V]) (As := [.ref (Ad 0)]) (rest := []) ⟨hx, hb, hml, hown, hts⟩ (c_X2_saveS l G cyI cyO L V Ad D (by omega)) (cwV 1 hts gX5_handOver_X2_save rfl rfl rfl (by decide +kernel) ⟨Nat.le_of_ble_eq_true rfl, Nat.le_of_ble_eq_true rfl⟩) hK hP hD hS hA [2, 1] rfl rfl rfl 0 2 rfl rfl rfl hl.1 rfl (Nat.le_of_ble_eq_true rfl) dX5_handOver_28 ⟨Nat.le_refl _, Nat.le_refl _⟩ (fun H locs hP hD hS => ?_)
    have hP : va_P G vwCl (cat [[(h, .inr (5, [.ref (Ad 0), .ref (At 0), .ref (As 0), .ref (Ac 0), .ref (L 6 0)]))], dyW cyI Ad D, hiW cyI cyO (svM L V) (svS V D)]) H := hP
    have hD : va_D A9 (cat [[(h, .inr (5, [.ref (Ad 0), .ref (At 0), .ref (As 0), .ref (Ac 0), .ref (L 6 0)]))], dyW cyI Ad D, hiW cyI cyO (svM L V) (svS V D)]) := hD
    refine lv_aload_n hx hb dX5_handOver_31 rfl (lv_at hl 0 rfl) ?_
    refine va_get (v := .ref (Ad 0)) (C := RX5) (T := TX5) (N := 5) hx hb hts hinX5 hown hK hP 0 rfl rfl 0 (by decide) hf10 (fun _ h9 => h9) rfl dX5_handOver_32 ?_
    refine gVi (gs := [[(h, .inr (5, [.ref (Ad 0), .ref (At 0), .ref (As 0), .ref (Ac 0), .ref (L 6 0)]))], dyW cyI Ad D, hiW cyI cyO (svM L V) (svS V D)]) (As := []) (rest := []) ⟨hx, hb, hml, hown, hts⟩ (c_X1_doNextStep l G cyI cyO Ad D (by omega)) (cwV 0 hts gX5_handOver_X1_doNextStep rfl rfl rfl (by decide +kernel) ⟨Nat.le_of_ble_eq_true rfl, Nat.le_of_ble_eq_true rfl⟩) hK hP hD hS hA [1] rfl rfl rfl 0 1 rfl rfl rfl hl.1 rfl (Nat.le_of_ble_eq_true rfl) dX5_handOver_35 ⟨Nat.le_refl _, Nat.le_refl _⟩ (fun H locs hP hD hS => ?_)
    have hP : va_P G vwCl (cat [[(h, .inr (5, [.ref (Ad 0), .ref (At 0), .ref (As 0), .ref (Ac 0), .ref (L 6 0)]))], dyW cyI Ad (dNext D), hiW cyI cyO (svM L V) (svS V D)]) H := hP
    have hD : va_D A9 (cat [[(h, .inr (5, [.ref (Ad 0), .ref (At 0), .ref (As 0), .ref (Ac 0), .ref (L 6 0)]))], dyW cyI Ad (dNext D), hiW cyI cyO (svM L V) (svS V D)]) := hD
    have hP : va_P G vwCl (cat [[(h, .inr (5, [.ref (Ad 0), .ref (At 0), .ref (As 0), .ref (Ac 0), .ref (L 6 0)]))], dyW cyI Ad (dNext D), hiW cyI cyO (svM L V) (svS V D)]) H := hP
    have hD : va_D A9 (cat [[(h, .inr (5, [.ref (Ad 0), .ref (At 0), .ref (As 0), .ref (Ac 0), .ref (L 6 0)]))], dyW cyI Ad (dNext D), hiW cyI cyO (svM L V) (svS V D)]) := hD
    exact end_i hx hb hr hlocks hK hP hD hS (rfl) dX5_handOver_38
  · have c_7 : (dHO D) = false := bI_z.mp c_7
    rw [hm] at c_7; cases c_7
abbrev rm_X5_callOff : Room := { frames := 4, cells := 0, slots := 0, locals := 86 }
set_option maxHeartbeats 4000000 in
set_option maxRecDepth 100000 in
theorem c_X5_callOff (l : Launch) (G : va_G) (cyI cyO : ClassId) (h : Nat) (Ad At As Ac : Nat → Nat) (L : Nat → Nat → Nat) (D : DS) (V : HS) (hn : D.2.2.2.2.2.1 ≤ 20) (hV : V.1 ≤ 6) (hm : dHO D = true) : CI l G (TY cyI cyO) yX5_callOff wsX5_callOff rm_X5_callOff [.ref (h)] [[(h, .inr (5, [.ref (Ad 0), .ref (At 0), .ref (As 0), .ref (Ac 0), .ref (L 6 0)]))], dyW cyI Ad D, hiW cyI cyO L V] (nI ((mvAll D.2.2.2.2.1 D.2.1 D.2.2.2.2.2.1).2)) [[(h, .inr (5, [.ref (Ad 0), .ref (At 0), .ref (As 0), .ref (Ac 0), .ref (L 6 0)]))], dyW cyI Ad (dBack D), hiW cyI cyO (svM L V) (svS V D)] := by
  refine wk_I (cc := cX5_callOff) (maxL := 1) (ret := (some .int)) (by decide) rfl (Nat.le_of_ble_eq_true rfl) ?_
  intro p9 e9 s9 m9 b9 t9 c9 A9 ls hx hb hr hts hown hlocks hml hK hA hD hP hl hS hnm
  have hl : lv_has ls 1 [(0, .ref (h))] := hl
  have hinX5 : ∀ w ∈ wsX50, w ∈ wsX5_callOff := by decide +kernel
  have hf10 := hts (.fieldLink RX5 10 "DoorstepRounds" "dairy" "LDoorstepRounds$Dairy;") (by decide +kernel)
  have hf36 := hts (.fieldLink RX5 36 "DoorstepRounds" "history" "LDoorstepRounds$History;") (by decide +kernel)
  refine lv_aload_n hx hb dX5_callOff_0 rfl (lv_at hl 0 rfl) ?_
  refine va_get (v := .ref (Ad 0)) (C := RX5) (T := TX5) (N := 5) hx hb hts hinX5 hown hK hP 0 rfl rfl 0 (by decide) hf10 (fun _ h9 => h9) rfl dX5_callOff_1 ?_
  refine gVi (gs := [[(h, .inr (5, [.ref (Ad 0), .ref (At 0), .ref (As 0), .ref (Ac 0), .ref (L 6 0)]))], dyW cyI Ad D, hiW cyI cyO L V]) (As := []) (rest := []) ⟨hx, hb, hml, hown, hts⟩ (c_X1_isHandingOver l G cyI cyO Ad D) (cwV 0 hts gX5_callOff_X1_isHandingOver rfl rfl rfl (by decide +kernel) ⟨Nat.le_of_ble_eq_true rfl, Nat.le_of_ble_eq_true rfl⟩) hK hP hD hS hA [1] rfl rfl rfl 0 1 rfl rfl rfl hl.1 rfl (Nat.le_of_ble_eq_true rfl) dX5_callOff_4 ⟨Nat.le_refl _, Nat.le_refl _⟩ (fun H locs hP hD hS => ?_)
  have hP : va_P G vwCl (cat [[(h, .inr (5, [.ref (Ad 0), .ref (At 0), .ref (As 0), .ref (Ac 0), .ref (L 6 0)]))], dyW cyI Ad D, hiW cyI cyO L V]) H := hP
  have hD : va_D A9 (cat [[(h, .inr (5, [.ref (Ad 0), .ref (At 0), .ref (As 0), .ref (Ac 0), .ref (L 6 0)]))], dyW cyI Ad D, hiW cyI cyO L V]) := hD
  refine lv_if_ne (tgt := 20) hx hb dX5_callOff_7 (by decide) (fun c_7 => ?_) (fun c_7 => ?_)
  · have c_7 : (dHO D) = true := bI_nz.mp c_7
    refine lv_aload_n hx hb dX5_callOff_20 rfl (lv_at hl 0 rfl) ?_
    refine va_get (v := .ref (L 6 0)) (C := RX5) (T := TX5) (N := 5) hx hb hts hinX5 hown hK hP 0 rfl rfl 4 (by decide) hf36 (fun _ h9 => h9) rfl dX5_callOff_21 ?_
    refine lv_aload_n hx hb dX5_callOff_24 rfl (lv_at hl 0 rfl) ?_
    refine va_get (v := .ref (Ad 0)) (C := RX5) (T := TX5) (N := 5) hx hb hts hinX5 hown hK hP 0 rfl rfl 0 (by decide) hf10 (fun _ h9 => h9) rfl dX5_callOff_25 ?_
    refine gVv (gs := [[(h, .inr (5, [.ref (Ad 0), .ref (At 0), .ref (As 0), .ref (Ac 0), .ref (L 6 0)]))], dyW cyI Ad D, hiW cyI cyO L V]) (As := [.ref (Ad 0)]) (rest := []) ⟨hx, hb, hml, hown, hts⟩ (c_X2_saveS l G cyI cyO L V Ad D (by omega)) (cwV 1 hts gX5_callOff_X2_save rfl rfl rfl (by decide +kernel) ⟨Nat.le_of_ble_eq_true rfl, Nat.le_of_ble_eq_true rfl⟩) hK hP hD hS hA [2, 1] rfl rfl rfl 0 2 rfl rfl rfl hl.1 rfl (Nat.le_of_ble_eq_true rfl) dX5_callOff_28 ⟨Nat.le_refl _, Nat.le_refl _⟩ (fun H locs hP hD hS => ?_)
    have hP : va_P G vwCl (cat [[(h, .inr (5, [.ref (Ad 0), .ref (At 0), .ref (As 0), .ref (Ac 0), .ref (L 6 0)]))], dyW cyI Ad D, hiW cyI cyO (svM L V) (svS V D)]) H := hP
    have hD : va_D A9 (cat [[(h, .inr (5, [.ref (Ad 0), .ref (At 0), .ref (As 0), .ref (Ac 0), .ref (L 6 0)]))], dyW cyI Ad D, hiW cyI cyO (svM L V) (svS V D)]) := hD
    refine lv_aload_n hx hb dX5_callOff_31 rfl (lv_at hl 0 rfl) ?_
    refine va_get (v := .ref (Ad 0)) (C := RX5) (T := TX5) (N := 5) hx hb hts hinX5 hown hK hP 0 rfl rfl 0 (by decide) hf10 (fun _ h9 => h9) rfl dX5_callOff_32 ?_
    refine gVi (gs := [[(h, .inr (5, [.ref (Ad 0), .ref (At 0), .ref (As 0), .ref (Ac 0), .ref (L 6 0)]))], dyW cyI Ad D, hiW cyI cyO (svM L V) (svS V D)]) (As := []) (rest := []) ⟨hx, hb, hml, hown, hts⟩ (c_X1_giveBack l G cyI cyO Ad D (by omega)) (cwV 0 hts gX5_callOff_X1_giveBack rfl rfl rfl (by decide +kernel) ⟨Nat.le_of_ble_eq_true rfl, Nat.le_of_ble_eq_true rfl⟩) hK hP hD hS hA [1] rfl rfl rfl 0 1 rfl rfl rfl hl.1 rfl (Nat.le_of_ble_eq_true rfl) dX5_callOff_35 ⟨Nat.le_refl _, Nat.le_refl _⟩ (fun H locs hP hD hS => ?_)
    have hP : va_P G vwCl (cat [[(h, .inr (5, [.ref (Ad 0), .ref (At 0), .ref (As 0), .ref (Ac 0), .ref (L 6 0)]))], dyW cyI Ad ((D.1, (mvAll D.2.2.2.2.1 D.2.1 D.2.2.2.2.2.1).1, D.2.2.1, D.2.2.2.1, D.2.2.2.2.1, D.2.2.2.2.2.1, 0, D.2.2.2.2.2.2.2.1, D.2.2.2.2.2.2.2.2.1, D.2.2.2.2.2.2.2.2.2)), hiW cyI cyO (svM L V) (svS V D)]) H := hP
    have hD : va_D A9 (cat [[(h, .inr (5, [.ref (Ad 0), .ref (At 0), .ref (As 0), .ref (Ac 0), .ref (L 6 0)]))], dyW cyI Ad ((D.1, (mvAll D.2.2.2.2.1 D.2.1 D.2.2.2.2.2.1).1, D.2.2.1, D.2.2.2.1, D.2.2.2.2.1, D.2.2.2.2.2.1, 0, D.2.2.2.2.2.2.2.1, D.2.2.2.2.2.2.2.2.1, D.2.2.2.2.2.2.2.2.2)), hiW cyI cyO (svM L V) (svS V D)]) := hD
    have hP : va_P G vwCl (cat [[(h, .inr (5, [.ref (Ad 0), .ref (At 0), .ref (As 0), .ref (Ac 0), .ref (L 6 0)]))], dyW cyI Ad (dBack D), hiW cyI cyO (svM L V) (svS V D)]) H := hP
    have hD : va_D A9 (cat [[(h, .inr (5, [.ref (Ad 0), .ref (At 0), .ref (As 0), .ref (Ac 0), .ref (L 6 0)]))], dyW cyI Ad (dBack D), hiW cyI cyO (svM L V) (svS V D)]) := hD
    exact end_i hx hb hr hlocks hK hP hD hS (rfl) dX5_callOff_38
  · have c_7 : (dHO D) = false := bI_z.mp c_7
    rw [hm] at c_7; cases c_7
abbrev rm_X5_planned : Room := { frames := 2, cells := 0, slots := 0, locals := 42 }
set_option maxHeartbeats 4000000 in
set_option maxRecDepth 100000 in
theorem c_X5_planned (l : Launch) (G : va_G) (cyI cyO : ClassId) (h : Nat) (Ad At As Ac : Nat → Nat) (L : Nat → Nat → Nat) (D : DS) (hn : D.2.2.2.2.2.1 ≤ 20) (k : Nat) (hk : k < D.2.2.2.2.2.1) : CI l G (TY cyI cyO) yX5_planned wsX5_planned rm_X5_planned [.ref (h), .int (nI (k))] [[(h, .inr (5, [.ref (Ad 0), .ref (At 0), .ref (As 0), .ref (Ac 0), .ref (L 6 0)]))], dyW cyI Ad D] (dPlan D k) [[(h, .inr (5, [.ref (Ad 0), .ref (At 0), .ref (As 0), .ref (Ac 0), .ref (L 6 0)]))], dyW cyI Ad D] := by
  refine wk_I (cc := cX5_planned) (maxL := 2) (ret := (some .int)) (by decide) rfl (Nat.le_of_ble_eq_true rfl) ?_
  intro p9 e9 s9 m9 b9 t9 c9 A9 ls hx hb hr hts hown hlocks hml hK hA hD hP hl hS hnm
  have hl : lv_has ls 2 [(0, .ref (h)), (1, .int (nI (k)))] := hl
  have hinX5 : ∀ w ∈ wsX50, w ∈ wsX5_planned := by decide +kernel
  have hf10 := hts (.fieldLink RX5 10 "DoorstepRounds" "dairy" "LDoorstepRounds$Dairy;") (by decide +kernel)
  refine lv_aload_n hx hb dX5_planned_0 rfl (lv_at hl 0 rfl) ?_
  refine lv_iload_n hx hb dX5_planned_1 rfl (lv_at hl 1 rfl) ?_
  refine gVv (gs := [[(h, .inr (5, [.ref (Ad 0), .ref (At 0), .ref (As 0), .ref (Ac 0), .ref (L 6 0)]))], dyW cyI Ad D]) (As := [.int (nI (k))]) (rest := []) ⟨hx, hb, hml, hown, hts⟩ (c_X5_checkDoorstep l G cyI cyO h Ad At As Ac L D (by omega) k (by omega)) (cwV 1 hts gX5_planned_X5_checkDoorstep rfl rfl rfl (by decide +kernel) ⟨Nat.le_of_ble_eq_true rfl, Nat.le_of_ble_eq_true rfl⟩) hK hP hD hS hA [0, 1] rfl rfl rfl 0 5 rfl rfl rfl hl.1 rfl (Nat.le_of_ble_eq_true rfl) dX5_planned_2 ⟨Nat.le_refl _, Nat.le_refl _⟩ (fun H locs hP hD hS => ?_)
  have hP : va_P G vwCl (cat [[(h, .inr (5, [.ref (Ad 0), .ref (At 0), .ref (As 0), .ref (Ac 0), .ref (L 6 0)]))], dyW cyI Ad D]) H := hP
  have hD : va_D A9 (cat [[(h, .inr (5, [.ref (Ad 0), .ref (At 0), .ref (As 0), .ref (Ac 0), .ref (L 6 0)]))], dyW cyI Ad D]) := hD
  refine lv_aload_n hx hb dX5_planned_5 rfl (lv_at hl 0 rfl) ?_
  refine va_get (v := .ref (Ad 0)) (C := RX5) (T := TX5) (N := 5) hx hb hts hinX5 hown hK hP 0 rfl rfl 0 (by decide) hf10 (fun _ h9 => h9) rfl dX5_planned_6 ?_
  refine lv_iload_n hx hb dX5_planned_9 rfl (lv_at hl 1 rfl) ?_
  refine gVi (gs := [[(h, .inr (5, [.ref (Ad 0), .ref (At 0), .ref (As 0), .ref (Ac 0), .ref (L 6 0)]))], dyW cyI Ad D]) (As := [.int (nI (k))]) (rest := []) ⟨hx, hb, hml, hown, hts⟩ (c_X1_plannedOwner l G cyI cyO Ad D k (by omega)) (cwV 1 hts gX5_planned_X1_plannedOwner rfl rfl rfl (by decide +kernel) ⟨Nat.le_of_ble_eq_true rfl, Nat.le_of_ble_eq_true rfl⟩) hK hP hD hS hA [1] rfl rfl rfl 0 1 rfl rfl rfl hl.1 rfl (Nat.le_of_ble_eq_true rfl) dX5_planned_10 ⟨Nat.le_refl _, Nat.le_refl _⟩ (fun H locs hP hD hS => ?_)
  have hP : va_P G vwCl (cat [[(h, .inr (5, [.ref (Ad 0), .ref (At 0), .ref (As 0), .ref (Ac 0), .ref (L 6 0)]))], dyW cyI Ad D]) H := hP
  have hD : va_D A9 (cat [[(h, .inr (5, [.ref (Ad 0), .ref (At 0), .ref (As 0), .ref (Ac 0), .ref (L 6 0)]))], dyW cyI Ad D]) := hD
  have hP : va_P G vwCl (cat [[(h, .inr (5, [.ref (Ad 0), .ref (At 0), .ref (As 0), .ref (Ac 0), .ref (L 6 0)]))], dyW cyI Ad D]) H := hP
  have hD : va_D A9 (cat [[(h, .inr (5, [.ref (Ad 0), .ref (At 0), .ref (As 0), .ref (Ac 0), .ref (L 6 0)]))], dyW cyI Ad D]) := hD
  exact end_i hx hb hr hlocks hK hP hD hS (rfl) dX5_planned_13
abbrev rm_X5_ifPlanned : Room := { frames := 4, cells := 0, slots := 0, locals := 92 }
set_option maxHeartbeats 4000000 in
set_option maxRecDepth 100000 in
theorem c_X5_ifPlanned (l : Launch) (G : va_G) (cyI cyO : ClassId) (h : Nat) (Ad At As Ac : Nat → Nat) (L : Nat → Nat → Nat) (S : SS) (D : DS) (hn : D.2.2.2.2.2.1 ≤ 20) (k : Nat) (hk : k < D.2.2.2.2.2.1) : CI l G (TY cyI cyO) yX5_ifPlanned wsX5_ifPlanned rm_X5_ifPlanned [.ref (h), .int (nI (k))] [[(h, .inr (5, [.ref (Ad 0), .ref (At 0), .ref (As 0), .ref (Ac 0), .ref (L 6 0)]))], shW cyI As S, dyW cyI Ad D] ((shOut S D).1 k) [[(h, .inr (5, [.ref (Ad 0), .ref (At 0), .ref (As 0), .ref (Ac 0), .ref (L 6 0)]))], shW cyI As (shOut S D), dyW cyI Ad D] := by
  refine wk_I (cc := cX5_ifPlanned) (maxL := 2) (ret := (some .int)) (by decide) rfl (Nat.le_of_ble_eq_true rfl) ?_
  intro p9 e9 s9 m9 b9 t9 c9 A9 ls hx hb hr hts hown hlocks hml hK hA hD hP hl hS hnm
  have hl : lv_has ls 2 [(0, .ref (h)), (1, .int (nI (k)))] := hl
  have hinX5 : ∀ w ∈ wsX50, w ∈ wsX5_ifPlanned := by decide +kernel
  have hf10 := hts (.fieldLink RX5 10 "DoorstepRounds" "dairy" "LDoorstepRounds$Dairy;") (by decide +kernel)
  have hf22 := hts (.fieldLink RX5 22 "DoorstepRounds" "sharing" "LDoorstepRounds$Sharing;") (by decide +kernel)
  refine lv_aload_n hx hb dX5_ifPlanned_0 rfl (lv_at hl 0 rfl) ?_
  refine lv_iload_n hx hb dX5_ifPlanned_1 rfl (lv_at hl 1 rfl) ?_
  refine gVv (gs := [[(h, .inr (5, [.ref (Ad 0), .ref (At 0), .ref (As 0), .ref (Ac 0), .ref (L 6 0)]))], shW cyI As S, dyW cyI Ad D]) (As := [.int (nI (k))]) (rest := []) ⟨hx, hb, hml, hown, hts⟩ (c_X5_checkDoorstep l G cyI cyO h Ad At As Ac L D (by omega) k (by omega)) (cwV 1 hts gX5_ifPlanned_X5_checkDoorstep rfl rfl rfl (by decide +kernel) ⟨Nat.le_of_ble_eq_true rfl, Nat.le_of_ble_eq_true rfl⟩) hK hP hD hS hA [0, 2] rfl rfl rfl 0 5 rfl rfl rfl hl.1 rfl (Nat.le_of_ble_eq_true rfl) dX5_ifPlanned_2 ⟨Nat.le_refl _, Nat.le_refl _⟩ (fun H locs hP hD hS => ?_)
  have hP : va_P G vwCl (cat [[(h, .inr (5, [.ref (Ad 0), .ref (At 0), .ref (As 0), .ref (Ac 0), .ref (L 6 0)]))], shW cyI As S, dyW cyI Ad D]) H := hP
  have hD : va_D A9 (cat [[(h, .inr (5, [.ref (Ad 0), .ref (At 0), .ref (As 0), .ref (Ac 0), .ref (L 6 0)]))], shW cyI As S, dyW cyI Ad D]) := hD
  refine lv_aload_n hx hb dX5_ifPlanned_5 rfl (lv_at hl 0 rfl) ?_
  refine va_get (v := .ref (As 0)) (C := RX5) (T := TX5) (N := 5) hx hb hts hinX5 hown hK hP 0 rfl rfl 2 (by decide) hf22 (fun _ h9 => h9) rfl dX5_ifPlanned_6 ?_
  refine lv_aload_n hx hb dX5_ifPlanned_9 rfl (lv_at hl 0 rfl) ?_
  refine va_get (v := .ref (Ad 0)) (C := RX5) (T := TX5) (N := 5) hx hb hts hinX5 hown hK hP 0 rfl rfl 0 (by decide) hf10 (fun _ h9 => h9) rfl dX5_ifPlanned_10 ?_
  refine gVi (gs := [[(h, .inr (5, [.ref (Ad 0), .ref (At 0), .ref (As 0), .ref (Ac 0), .ref (L 6 0)]))], shW cyI As S, dyW cyI Ad D]) (As := [.ref (Ad 0)]) (rest := []) ⟨hx, hb, hml, hown, hts⟩ (c_X4_shareOut l G cyI cyO As Ad S D (by omega)) (cwV 1 hts gX5_ifPlanned_X4_shareOut rfl rfl rfl (by decide +kernel) ⟨Nat.le_of_ble_eq_true rfl, Nat.le_of_ble_eq_true rfl⟩) hK hP hD hS hA [1, 2] rfl rfl rfl 0 4 rfl rfl rfl hl.1 rfl (Nat.le_of_ble_eq_true rfl) dX5_ifPlanned_13 ⟨Nat.le_refl _, Nat.le_refl _⟩ (fun H locs hP hD hS => ?_)
  have hP : va_P G vwCl (cat [[(h, .inr (5, [.ref (Ad 0), .ref (At 0), .ref (As 0), .ref (Ac 0), .ref (L 6 0)]))], shW cyI As (shOut S D), dyW cyI Ad D]) H := hP
  have hD : va_D A9 (cat [[(h, .inr (5, [.ref (Ad 0), .ref (At 0), .ref (As 0), .ref (Ac 0), .ref (L 6 0)]))], shW cyI As (shOut S D), dyW cyI Ad D]) := hD
  refine lv_pop hx hb dX5_ifPlanned_16 rfl ?_
  refine lv_aload_n hx hb dX5_ifPlanned_17 rfl (lv_at hl 0 rfl) ?_
  refine va_get (v := .ref (As 0)) (C := RX5) (T := TX5) (N := 5) hx hb hts hinX5 hown hK hP 0 rfl rfl 2 (by decide) hf22 (fun _ h9 => h9) rfl dX5_ifPlanned_18 ?_
  refine lv_iload_n hx hb dX5_ifPlanned_21 rfl (lv_at hl 1 rfl) ?_
  refine gVi (gs := [[(h, .inr (5, [.ref (Ad 0), .ref (At 0), .ref (As 0), .ref (Ac 0), .ref (L 6 0)]))], shW cyI As (shOut S D), dyW cyI Ad D]) (As := [.int (nI (k))]) (rest := []) ⟨hx, hb, hml, hown, hts⟩ (c_X4_ownerInPlan l G cyI cyO As (shOut S D) k (by omega)) (cwV 1 hts gX5_ifPlanned_X4_ownerInPlan rfl rfl rfl (by decide +kernel) ⟨Nat.le_of_ble_eq_true rfl, Nat.le_of_ble_eq_true rfl⟩) hK hP hD hS hA [1] rfl rfl rfl 0 4 rfl rfl rfl hl.1 rfl (Nat.le_of_ble_eq_true rfl) dX5_ifPlanned_22 ⟨Nat.le_refl _, Nat.le_refl _⟩ (fun H locs hP hD hS => ?_)
  have hP : va_P G vwCl (cat [[(h, .inr (5, [.ref (Ad 0), .ref (At 0), .ref (As 0), .ref (Ac 0), .ref (L 6 0)]))], shW cyI As (shOut S D), dyW cyI Ad D]) H := hP
  have hD : va_D A9 (cat [[(h, .inr (5, [.ref (Ad 0), .ref (At 0), .ref (As 0), .ref (Ac 0), .ref (L 6 0)]))], shW cyI As (shOut S D), dyW cyI Ad D]) := hD
  have hP : va_P G vwCl (cat [[(h, .inr (5, [.ref (Ad 0), .ref (At 0), .ref (As 0), .ref (Ac 0), .ref (L 6 0)]))], shW cyI As (shOut S D), dyW cyI Ad D]) H := hP
  have hD : va_D A9 (cat [[(h, .inr (5, [.ref (Ad 0), .ref (At 0), .ref (As 0), .ref (Ac 0), .ref (L 6 0)]))], shW cyI As (shOut S D), dyW cyI Ad D]) := hD
  exact end_i hx hb hr hlocks hK hP hD hS (rfl) dX5_ifPlanned_25
abbrev rm_X5_reason : Room := { frames := 4, cells := 0, slots := 0, locals := 92 }
set_option maxHeartbeats 4000000 in
set_option maxRecDepth 100000 in
theorem c_X5_reason (l : Launch) (G : va_G) (cyI cyO : ClassId) (h : Nat) (Ad At As Ac : Nat → Nat) (L : Nat → Nat → Nat) (S : SS) (D : DS) (hn : D.2.2.2.2.2.1 ≤ 20) (k : Nat) (hk : k < D.2.2.2.2.2.1) : CI l G (TY cyI cyO) yX5_reason wsX5_reason rm_X5_reason [.ref (h), .int (nI (k))] [[(h, .inr (5, [.ref (Ad 0), .ref (At 0), .ref (As 0), .ref (Ac 0), .ref (L 6 0)]))], shW cyI As S, dyW cyI Ad D] (rsn (shOut S D) D k) [[(h, .inr (5, [.ref (Ad 0), .ref (At 0), .ref (As 0), .ref (Ac 0), .ref (L 6 0)]))], shW cyI As (shOut S D), dyW cyI Ad D] := by
  refine wk_I (cc := cX5_reason) (maxL := 2) (ret := (some .int)) (by decide) rfl (Nat.le_of_ble_eq_true rfl) ?_
  intro p9 e9 s9 m9 b9 t9 c9 A9 ls hx hb hr hts hown hlocks hml hK hA hD hP hl hS hnm
  have hl : lv_has ls 2 [(0, .ref (h)), (1, .int (nI (k)))] := hl
  have hinX5 : ∀ w ∈ wsX50, w ∈ wsX5_reason := by decide +kernel
  have hf10 := hts (.fieldLink RX5 10 "DoorstepRounds" "dairy" "LDoorstepRounds$Dairy;") (by decide +kernel)
  have hf22 := hts (.fieldLink RX5 22 "DoorstepRounds" "sharing" "LDoorstepRounds$Sharing;") (by decide +kernel)
  refine lv_aload_n hx hb dX5_reason_0 rfl (lv_at hl 0 rfl) ?_
  refine lv_iload_n hx hb dX5_reason_1 rfl (lv_at hl 1 rfl) ?_
  refine gVv (gs := [[(h, .inr (5, [.ref (Ad 0), .ref (At 0), .ref (As 0), .ref (Ac 0), .ref (L 6 0)]))], shW cyI As S, dyW cyI Ad D]) (As := [.int (nI (k))]) (rest := []) ⟨hx, hb, hml, hown, hts⟩ (c_X5_checkDoorstep l G cyI cyO h Ad At As Ac L D (by omega) k (by omega)) (cwV 1 hts gX5_reason_X5_checkDoorstep rfl rfl rfl (by decide +kernel) ⟨Nat.le_of_ble_eq_true rfl, Nat.le_of_ble_eq_true rfl⟩) hK hP hD hS hA [0, 2] rfl rfl rfl 0 5 rfl rfl rfl hl.1 rfl (Nat.le_of_ble_eq_true rfl) dX5_reason_2 ⟨Nat.le_refl _, Nat.le_refl _⟩ (fun H locs hP hD hS => ?_)
  have hP : va_P G vwCl (cat [[(h, .inr (5, [.ref (Ad 0), .ref (At 0), .ref (As 0), .ref (Ac 0), .ref (L 6 0)]))], shW cyI As S, dyW cyI Ad D]) H := hP
  have hD : va_D A9 (cat [[(h, .inr (5, [.ref (Ad 0), .ref (At 0), .ref (As 0), .ref (Ac 0), .ref (L 6 0)]))], shW cyI As S, dyW cyI Ad D]) := hD
  refine lv_aload_n hx hb dX5_reason_5 rfl (lv_at hl 0 rfl) ?_
  refine va_get (v := .ref (As 0)) (C := RX5) (T := TX5) (N := 5) hx hb hts hinX5 hown hK hP 0 rfl rfl 2 (by decide) hf22 (fun _ h9 => h9) rfl dX5_reason_6 ?_
  refine lv_aload_n hx hb dX5_reason_9 rfl (lv_at hl 0 rfl) ?_
  refine va_get (v := .ref (Ad 0)) (C := RX5) (T := TX5) (N := 5) hx hb hts hinX5 hown hK hP 0 rfl rfl 0 (by decide) hf10 (fun _ h9 => h9) rfl dX5_reason_10 ?_
  refine gVi (gs := [[(h, .inr (5, [.ref (Ad 0), .ref (At 0), .ref (As 0), .ref (Ac 0), .ref (L 6 0)]))], shW cyI As S, dyW cyI Ad D]) (As := [.ref (Ad 0)]) (rest := []) ⟨hx, hb, hml, hown, hts⟩ (c_X4_shareOut l G cyI cyO As Ad S D (by omega)) (cwV 1 hts gX5_reason_X4_shareOut rfl rfl rfl (by decide +kernel) ⟨Nat.le_of_ble_eq_true rfl, Nat.le_of_ble_eq_true rfl⟩) hK hP hD hS hA [1, 2] rfl rfl rfl 0 4 rfl rfl rfl hl.1 rfl (Nat.le_of_ble_eq_true rfl) dX5_reason_13 ⟨Nat.le_refl _, Nat.le_refl _⟩ (fun H locs hP hD hS => ?_)
  have hP : va_P G vwCl (cat [[(h, .inr (5, [.ref (Ad 0), .ref (At 0), .ref (As 0), .ref (Ac 0), .ref (L 6 0)]))], shW cyI As (shOut S D), dyW cyI Ad D]) H := hP
  have hD : va_D A9 (cat [[(h, .inr (5, [.ref (Ad 0), .ref (At 0), .ref (As 0), .ref (Ac 0), .ref (L 6 0)]))], shW cyI As (shOut S D), dyW cyI Ad D]) := hD
  refine lv_pop hx hb dX5_reason_16 rfl ?_
  refine lv_aload_n hx hb dX5_reason_17 rfl (lv_at hl 0 rfl) ?_
  refine lv_iload_n hx hb dX5_reason_18 rfl (lv_at hl 1 rfl) ?_
  refine gVi (gs := [[(h, .inr (5, [.ref (Ad 0), .ref (At 0), .ref (As 0), .ref (Ac 0), .ref (L 6 0)]))], shW cyI As (shOut S D), dyW cyI Ad D]) (As := [.int (nI (k))]) (rest := []) ⟨hx, hb, hml, hown, hts⟩ (c_X5_reasonInPlan l G cyI cyO h Ad At As Ac L (shOut S D) D k (by omega)) (cwV 1 hts gX5_reason_X5_reasonInPlan rfl rfl rfl (by decide +kernel) ⟨Nat.le_of_ble_eq_true rfl, Nat.le_of_ble_eq_true rfl⟩) hK hP hD hS hA [0, 1, 2] rfl rfl rfl 0 5 rfl rfl rfl hl.1 rfl (Nat.le_of_ble_eq_true rfl) dX5_reason_19 ⟨Nat.le_refl _, Nat.le_refl _⟩ (fun H locs hP hD hS => ?_)
  have hP : va_P G vwCl (cat [[(h, .inr (5, [.ref (Ad 0), .ref (At 0), .ref (As 0), .ref (Ac 0), .ref (L 6 0)]))], shW cyI As (shOut S D), dyW cyI Ad D]) H := hP
  have hD : va_D A9 (cat [[(h, .inr (5, [.ref (Ad 0), .ref (At 0), .ref (As 0), .ref (Ac 0), .ref (L 6 0)]))], shW cyI As (shOut S D), dyW cyI Ad D]) := hD
  have hP : va_P G vwCl (cat [[(h, .inr (5, [.ref (Ad 0), .ref (At 0), .ref (As 0), .ref (Ac 0), .ref (L 6 0)]))], shW cyI As (shOut S D), dyW cyI Ad D]) H := hP
  have hD : va_D A9 (cat [[(h, .inr (5, [.ref (Ad 0), .ref (At 0), .ref (As 0), .ref (Ac 0), .ref (L 6 0)]))], shW cyI As (shOut S D), dyW cyI Ad D]) := hD
  exact end_i hx hb hr hlocks hK hP hD hS (rfl) dX5_reason_22
abbrev rm_X5_changesIf : Room := { frames := 5, cells := 0, slots := 0, locals := 113 }
set_option maxHeartbeats 4000000 in
set_option maxRecDepth 100000 in
theorem c_X5_changesIf (l : Launch) (G : va_G) (cyI cyO : ClassId) (h : Nat) (Ad At As Ac : Nat → Nat) (L : Nat → Nat → Nat) (S : SS) (T : DS) (D : DS) (k : Nat) (hk : k < 6) (hn : D.2.2.2.2.2.1 ≤ 20) : CI l G (TY cyI cyO) yX5_changesIf wsX5_changesIf rm_X5_changesIf [.ref (h), .int (nI (k))] [[(h, .inr (5, [.ref (Ad 0), .ref (At 0), .ref (As 0), .ref (Ac 0), .ref (L 6 0)]))], shW cyI As S, dyW cyI At T, dyW cyI Ad D] (shRes S (dSw T D k)) [[(h, .inr (5, [.ref (Ad 0), .ref (At 0), .ref (As 0), .ref (Ac 0), .ref (L 6 0)]))], shW cyI As (shOut S (dSw T D k)), dyW cyI At (dSw T D k), dyW cyI Ad D] := by
  refine wk_I (cc := cX5_changesIf) (maxL := 2) (ret := (some .int)) (by decide) rfl (Nat.le_of_ble_eq_true rfl) ?_
  intro p9 e9 s9 m9 b9 t9 c9 A9 ls hx hb hr hts hown hlocks hml hK hA hD hP hl hS hnm
  have hl : lv_has ls 2 [(0, .ref (h)), (1, .int (nI (k)))] := hl
  refine lv_iload_n hx hb dX5_changesIf_0 rfl (lv_at hl 1 rfl) ?_
  refine gSv (gs := [[(h, .inr (5, [.ref (Ad 0), .ref (At 0), .ref (As 0), .ref (Ac 0), .ref (L 6 0)]))], shW cyI As S, dyW cyI At T, dyW cyI Ad D]) (As := [.int (nI (k))]) (rest := []) ⟨hx, hb, hml, hown, hts⟩ (c_X5_checkMilkman l G cyI cyO k (by omega)) (va_cwS 1 hts gX5_changesIf_X5_checkMilkman rfl rfl rfl (by decide +kernel) ⟨Nat.le_of_ble_eq_true rfl, Nat.le_of_ble_eq_true rfl⟩) hK hP hD hS hA [] rfl rfl rfl rfl hl.1 rfl (Nat.le_of_ble_eq_true rfl) dX5_changesIf_1 ⟨Nat.le_refl _, Nat.le_refl _⟩ (fun H locs hP hD hS => ?_)
  have hP : va_P G vwCl (cat [[(h, .inr (5, [.ref (Ad 0), .ref (At 0), .ref (As 0), .ref (Ac 0), .ref (L 6 0)]))], shW cyI As S, dyW cyI At T, dyW cyI Ad D]) H := hP
  have hD : va_D A9 (cat [[(h, .inr (5, [.ref (Ad 0), .ref (At 0), .ref (As 0), .ref (Ac 0), .ref (L 6 0)]))], shW cyI As S, dyW cyI At T, dyW cyI Ad D]) := hD
  refine lv_aload_n hx hb dX5_changesIf_4 rfl (lv_at hl 0 rfl) ?_
  refine lv_iload_n hx hb dX5_changesIf_5 rfl (lv_at hl 1 rfl) ?_
  refine gVi (gs := [[(h, .inr (5, [.ref (Ad 0), .ref (At 0), .ref (As 0), .ref (Ac 0), .ref (L 6 0)]))], shW cyI As S, dyW cyI At T, dyW cyI Ad D]) (As := [.int (nI (k))]) (rest := []) ⟨hx, hb, hml, hown, hts⟩ (c_X5_changesIfSwitched l G cyI cyO h Ad At As Ac L S T D k (by omega) (by omega)) (cwV 1 hts gX5_changesIf_X5_changesIfSwitched rfl rfl rfl (by decide +kernel) ⟨Nat.le_of_ble_eq_true rfl, Nat.le_of_ble_eq_true rfl⟩) hK hP hD hS hA [0, 1, 2, 3] rfl rfl rfl 0 5 rfl rfl rfl hl.1 rfl (Nat.le_of_ble_eq_true rfl) dX5_changesIf_6 ⟨Nat.le_refl _, Nat.le_refl _⟩ (fun H locs hP hD hS => ?_)
  have hP : va_P G vwCl (cat [[(h, .inr (5, [.ref (Ad 0), .ref (At 0), .ref (As 0), .ref (Ac 0), .ref (L 6 0)]))], shW cyI As (shOut S (dSw T D k)), dyW cyI At (dSw T D k), dyW cyI Ad D]) H := hP
  have hD : va_D A9 (cat [[(h, .inr (5, [.ref (Ad 0), .ref (At 0), .ref (As 0), .ref (Ac 0), .ref (L 6 0)]))], shW cyI As (shOut S (dSw T D k)), dyW cyI At (dSw T D k), dyW cyI Ad D]) := hD
  have hP : va_P G vwCl (cat [[(h, .inr (5, [.ref (Ad 0), .ref (At 0), .ref (As 0), .ref (Ac 0), .ref (L 6 0)]))], shW cyI As (shOut S (dSw T D k)), dyW cyI At (dSw T D k), dyW cyI Ad D]) H := hP
  have hD : va_D A9 (cat [[(h, .inr (5, [.ref (Ad 0), .ref (At 0), .ref (As 0), .ref (Ac 0), .ref (L 6 0)]))], shW cyI As (shOut S (dSw T D k)), dyW cyI At (dSw T D k), dyW cyI Ad D]) := hD
  exact end_i hx hb hr hlocks hK hP hD hS (rfl) dX5_changesIf_9
abbrev rm_X5_undo : Room := { frames := 4, cells := 0, slots := 0, locals := 86 }
set_option maxHeartbeats 4000000 in
set_option maxRecDepth 100000 in
theorem c_X5_undo (l : Launch) (G : va_G) (cyI cyO : ClassId) (h : Nat) (Ad At As Ac : Nat → Nat) (L : Nat → Nat → Nat) (D : DS) (V : HS) (hV : V.1 ≤ 6) (h1 : 1 ≤ V.1) : CI l G (TY cyI cyO) yX5_undo wsX5_undo rm_X5_undo [.ref (h)] [[(h, .inr (5, [.ref (Ad 0), .ref (At 0), .ref (As 0), .ref (Ac 0), .ref (L 6 0)]))], dyW cyI Ad D, hiW cyI cyO L V] (nI (V.1 - 1)) [[(h, .inr (5, [.ref (Ad 0), .ref (At 0), .ref (As 0), .ref (Ac 0), .ref (L 6 0)]))], dyW cyI Ad (dCopy D (V.2 (V.1 - 1))), hiW cyI cyO L ((V.1 - 1, V.2))] := by
  refine wk_I (cc := cX5_undo) (maxL := 1) (ret := (some .int)) (by decide) rfl (Nat.le_of_ble_eq_true rfl) ?_
  intro p9 e9 s9 m9 b9 t9 c9 A9 ls hx hb hr hts hown hlocks hml hK hA hD hP hl hS hnm
  have hl : lv_has ls 1 [(0, .ref (h))] := hl
  have hinX5 : ∀ w ∈ wsX50, w ∈ wsX5_undo := by decide +kernel
  have hf10 := hts (.fieldLink RX5 10 "DoorstepRounds" "dairy" "LDoorstepRounds$Dairy;") (by decide +kernel)
  have hf36 := hts (.fieldLink RX5 36 "DoorstepRounds" "history" "LDoorstepRounds$History;") (by decide +kernel)
  refine lv_aload_n hx hb dX5_undo_0 rfl (lv_at hl 0 rfl) ?_
  refine va_get (v := .ref (L 6 0)) (C := RX5) (T := TX5) (N := 5) hx hb hts hinX5 hown hK hP 0 rfl rfl 4 (by decide) hf36 (fun _ h9 => h9) rfl dX5_undo_1 ?_
  have hP : va_P G vwCl (cat [[(h, .inr (5, [.ref (Ad 0), .ref (At 0), .ref (As 0), .ref (Ac 0), .ref (L 6 0)]))], dyW cyI Ad D, [(L 6 0, .inr (2, [.ref (L 6 1), .int (nI (V.1))]))], [(L 6 1, .inl (cyO, 6, .inr (.inr (.inr (.inr (fun k => some (L k 0)))))))], dyW cyI (L 0) (V.2 0), dyW cyI (L 1) (V.2 1), dyW cyI (L 2) (V.2 2), dyW cyI (L 3) (V.2 3), dyW cyI (L 4) (V.2 4), dyW cyI (L 5) (V.2 5)]) s9.heap := hP
  have hD : va_D A9 (cat [[(h, .inr (5, [.ref (Ad 0), .ref (At 0), .ref (As 0), .ref (Ac 0), .ref (L 6 0)]))], dyW cyI Ad D, [(L 6 0, .inr (2, [.ref (L 6 1), .int (nI (V.1))]))], [(L 6 1, .inl (cyO, 6, .inr (.inr (.inr (.inr (fun k => some (L k 0)))))))], dyW cyI (L 0) (V.2 0), dyW cyI (L 1) (V.2 1), dyW cyI (L 2) (V.2 2), dyW cyI (L 3) (V.2 3), dyW cyI (L 4) (V.2 4), dyW cyI (L 5) (V.2 5)]) := hD
  refine gVi (gs := [[(h, .inr (5, [.ref (Ad 0), .ref (At 0), .ref (As 0), .ref (Ac 0), .ref (L 6 0)]))], dyW cyI Ad D, [(L 6 0, .inr (2, [.ref (L 6 1), .int (nI (V.1))]))], [(L 6 1, .inl (cyO, 6, .inr (.inr (.inr (.inr (fun k => some (L k 0)))))))], dyW cyI (L 0) (V.2 0), dyW cyI (L 1) (V.2 1), dyW cyI (L 2) (V.2 2), dyW cyI (L 3) (V.2 3), dyW cyI (L 4) (V.2 4), dyW cyI (L 5) (V.2 5)]) (As := []) (rest := []) ⟨hx, hb, hml, hown, hts⟩ (c_X2_isEmpty l G cyI cyO (L 6 0) (L 6 1) V.1 (fun k => some (L k 0)) (by omega)) (cwV 0 hts gX5_undo_X2_isEmpty rfl rfl rfl (by decide +kernel) ⟨Nat.le_of_ble_eq_true rfl, Nat.le_of_ble_eq_true rfl⟩) hK hP hD hS hA [2, 3] rfl rfl rfl 0 2 rfl rfl rfl hl.1 rfl (Nat.le_of_ble_eq_true rfl) dX5_undo_4 ⟨Nat.le_refl _, Nat.le_refl _⟩ (fun H locs hP hD hS => ?_)
  have hP : va_P G vwCl (cat [[(h, .inr (5, [.ref (Ad 0), .ref (At 0), .ref (As 0), .ref (Ac 0), .ref (L 6 0)]))], dyW cyI Ad D, [(L 6 0, .inr (2, [.ref (L 6 1), .int (nI (V.1))]))], [(L 6 1, .inl (cyO, 6, .inr (.inr (.inr (.inr (fun k => some (L k 0)))))))], dyW cyI (L 0) (V.2 0), dyW cyI (L 1) (V.2 1), dyW cyI (L 2) (V.2 2), dyW cyI (L 3) (V.2 3), dyW cyI (L 4) (V.2 4), dyW cyI (L 5) (V.2 5)]) H := hP
  have hD : va_D A9 (cat [[(h, .inr (5, [.ref (Ad 0), .ref (At 0), .ref (As 0), .ref (Ac 0), .ref (L 6 0)]))], dyW cyI Ad D, [(L 6 0, .inr (2, [.ref (L 6 1), .int (nI (V.1))]))], [(L 6 1, .inl (cyO, 6, .inr (.inr (.inr (.inr (fun k => some (L k 0)))))))], dyW cyI (L 0) (V.2 0), dyW cyI (L 1) (V.2 1), dyW cyI (L 2) (V.2 2), dyW cyI (L 3) (V.2 3), dyW cyI (L 4) (V.2 4), dyW cyI (L 5) (V.2 5)]) := hD
  refine lv_if_eq (tgt := 20) hx hb dX5_undo_7 (by decide) (fun c_7 => ?_) (fun c_7 => ?_)
  · have c_7 : (decide (V.1 = 0)) = false := bI_z.mp c_7
    have c_7 : ¬ (V.1 = 0) := of_decide_eq_false c_7
    refine lv_aload_n hx hb dX5_undo_20 rfl (lv_at hl 0 rfl) ?_
    refine va_get (v := .ref (L 6 0)) (C := RX5) (T := TX5) (N := 5) hx hb hts hinX5 hown hK hP 0 rfl rfl 4 (by decide) hf36 (fun _ h9 => h9) rfl dX5_undo_21 ?_
    refine lv_aload_n hx hb dX5_undo_24 rfl (lv_at hl 0 rfl) ?_
    refine va_get (v := .ref (Ad 0)) (C := RX5) (T := TX5) (N := 5) hx hb hts hinX5 hown hK hP 0 rfl rfl 0 (by decide) hf10 (fun _ h9 => h9) rfl dX5_undo_25 ?_
    have hP : va_P G vwCl (cat [[(h, .inr (5, [.ref (Ad 0), .ref (At 0), .ref (As 0), .ref (Ac 0), .ref (L 6 0)]))], dyW cyI Ad D, hiW cyI cyO L V]) H := hP
    have hD : va_D A9 (cat [[(h, .inr (5, [.ref (Ad 0), .ref (At 0), .ref (As 0), .ref (Ac 0), .ref (L 6 0)]))], dyW cyI Ad D, hiW cyI cyO L V]) := hD
    refine gVi (gs := [[(h, .inr (5, [.ref (Ad 0), .ref (At 0), .ref (As 0), .ref (Ac 0), .ref (L 6 0)]))], dyW cyI Ad D, hiW cyI cyO L V]) (As := [.ref (Ad 0)]) (rest := []) ⟨hx, hb, hml, hown, hts⟩ (c_X2_restoreS l G cyI cyO L V Ad D (by omega) (by omega)) (cwV 1 hts gX5_undo_X2_restore rfl rfl rfl (by decide +kernel) ⟨Nat.le_of_ble_eq_true rfl, Nat.le_of_ble_eq_true rfl⟩) hK hP hD hS hA [2, 1] rfl rfl rfl 0 2 rfl rfl rfl hl.1 rfl (Nat.le_of_ble_eq_true rfl) dX5_undo_28 ⟨Nat.le_refl _, Nat.le_refl _⟩ (fun H locs hP hD hS => ?_)
    have hP : va_P G vwCl (cat [[(h, .inr (5, [.ref (Ad 0), .ref (At 0), .ref (As 0), .ref (Ac 0), .ref (L 6 0)]))], dyW cyI Ad (dCopy D (V.2 (V.1 - 1))), hiW cyI cyO L ((V.1 - 1, V.2))]) H := hP
    have hD : va_D A9 (cat [[(h, .inr (5, [.ref (Ad 0), .ref (At 0), .ref (As 0), .ref (Ac 0), .ref (L 6 0)]))], dyW cyI Ad (dCopy D (V.2 (V.1 - 1))), hiW cyI cyO L ((V.1 - 1, V.2))]) := hD
    have hP : va_P G vwCl (cat [[(h, .inr (5, [.ref (Ad 0), .ref (At 0), .ref (As 0), .ref (Ac 0), .ref (L 6 0)]))], dyW cyI Ad (dCopy D (V.2 (V.1 - 1))), hiW cyI cyO L ((V.1 - 1, V.2))]) H := hP
    have hD : va_D A9 (cat [[(h, .inr (5, [.ref (Ad 0), .ref (At 0), .ref (As 0), .ref (Ac 0), .ref (L 6 0)]))], dyW cyI Ad (dCopy D (V.2 (V.1 - 1))), hiW cyI cyO L ((V.1 - 1, V.2))]) := hD
    exact end_i hx hb hr hlocks hK hP hD hS (rfl) dX5_undo_31
  · have c_7 : (decide (V.1 = 0)) = true := bI_nz.mp c_7
    have c_7 : (V.1 = 0) := of_decide_eq_true c_7
    exact absurd c_7 (by omega)

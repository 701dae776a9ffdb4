/-! ===== DoorstepRounds: what cannot throw ===== -/
def dBg (D : DS) (S : SS) : DS := (D.1, D.2.1, D.2.2.1, rowCopy D.2.2.2.1 S.1 D.2.2.2.2.2.1, rowCopy D.2.2.2.2.1 D.2.1 20, D.2.2.2.2.2.1, 1, D.2.2.2.2.2.2.2)
def mpD (S : SS) (D : DS) : DS := if shRes S D ≤ 0 then D else dBg D (shOut S D)
def rsn (S : SS) (D : DS) (k : Nat) : Int32 := if cW D.2.2.1 = 0 then 1 else if D.2.1 k = S.1 k then 0 else if D.2.1 k = -1 then 2 else 3
def dDis (D : DS) (k : Nat) : DS := (D.1, (dsAll D.2.1 D.2.2.2.2.2.1 (nI k)).1, upd D.2.2.1 k 0, D.2.2.2)
def dWel (D : DS) (k : Nat) : DS := (D.1, D.2.1, upd D.2.2.1 k 1, D.2.2.2)
def dSw (T D : DS) (k : Nat) : DS := if (dCopy T D).2.2.1 k = 1 then dDis (dCopy T D) k else dWel (dCopy T D) k
def dAdd (D : DS) (v : Int32) : DS := (upd D.1 D.2.2.2.2.2.1 v, upd D.2.1 D.2.2.2.2.2.1 (-1), D.2.2.1, D.2.2.2.1, D.2.2.2.2.1, D.2.2.2.2.2.1 + 1, D.2.2.2.2.2.2)
def dRem (D : DS) (k : Nat) : DS := (rowGap D.1 20 k, rowGap D.2.1 20 k, D.2.2.1, D.2.2.2.1, D.2.2.2.2.1, D.2.2.2.2.2.1 - 1, D.2.2.2.2.2.2)
def dBack (D : DS) : DS := (D.1, (mvAll D.2.2.2.2.1 D.2.1 D.2.2.2.2.2.1).1, D.2.2.1, D.2.2.2.1, D.2.2.2.2.1, D.2.2.2.2.2.1, 0, D.2.2.2.2.2.2.2)
def dBring (D : DS) : DS := (D.1, D.2.1, D.2.2.1, D.2.2.2.1, D.2.2.2.2.1, D.2.2.2.2.2.1, D.2.2.2.2.2.2.1, D.2.2.2.2.2.2.2.1, D.2.2.2.2.2.2.2.2.1 + (bmAll D.1 D.2.1 D.2.2.2.2.2.2.2.2.2 D.2.2.2.2.2.1).1, (bmAll D.1 D.2.1 D.2.2.2.2.2.2.2.2.2 D.2.2.2.2.2.1).2)
def mixI (x : Int64) (v : Int32) : Int64 := 31 * x + v.toInt64
def mmStep (D : DS) (m : Nat) (q : Int64 × SS × DS) : Int64 × SS × DS :=
  (mixI (mixI (mixI (mixI q.1 (bI (decide (D.2.2.1 m = 1)))) (nI (rSz D.2.1 D.2.2.2.2.2.1 (nI m)))) (rLd D.1 D.2.1 D.2.2.2.2.2.1 (nI m))) (shRes q.2.1 (dSw q.2.2 D m)), shOut q.2.1 (dSw q.2.2 D m), dSw q.2.2 D m)
def mdStep (S : SS) (D : DS) (d : Nat) (x : Int64) : Int64 := mixI (mixI (mixI (mixI (mixI x (D.1 d)) (D.2.1 d)) (dPlan D d)) (S.1 d)) (rsn S D d)
def dgA (S : SS) (D : DS) : Int64 := mixI (mixI (mixI (mixI (mixI (mixI 4756 (nI D.2.2.2.2.2.1)) D.2.2.2.2.2.2.1) D.2.2.2.2.2.2.2.1) D.2.2.2.2.2.2.2.2.1) D.2.2.2.2.2.2.2.2.2) (shRes S D)
def mmAll (D : DS) (x : Int64) (S : SS) (T : DS) : Int64 × SS × DS := itr 6 (mmStep D) (x, S, T)
def mdAll (S : SS) (D : DS) (x : Int64) : Int64 := itr D.2.2.2.2.2.1 (mdStep S D) x
def uneX (D : DS) : UInt64 := if D.2.2.2.2.2.1 = 0 then FP.dconst0 else FP.ddiv (FP.i2d (nI (rDiff D.2.1 D.2.2.1 D.2.2.2.2.2.1))) (FP.i2d (nI D.2.2.2.2.2.1))
theorem df_le {O W : Nat → Int32} {n : Nat} (hn : n ≤ 20) (i : Nat) : (itr i (dfStep O W n) (0, 20)).1 ≤ 20 := by
  induction i with
  | zero => show 0 ≤ 20; omega
  | succ i ih =>
    show (dfStep O W n i (itr i (dfStep O W n) (0, 20))).1 ≤ 20
    generalize itr i (dfStep O W n) (0, 20) = q at ih ⊢
    have := rSz_le O n (nI i)
    unfold dfStep
    split
    · show (if _ then _ else _) ≤ 20
      split <;> omega
    · exact ih
theorem rDiff_le (O W : Nat → Int32) (n : Nat) (hn : n ≤ 20) : rDiff O W n ≤ 20 := by
  have := df_le (O := O) (W := W) hn 6
  unfold rDiff
  split
  · omega
  · have h9 : (dfAll O W n).1 ≤ 20 := this
    omega
def pMay (D : DS) (u : Int32) (v : Nat) : Bool := if u = 43 then !dHO D && decide (D.2.2.2.2.2.1 < 20) else if u = 45 then dHas D.2.2.2.2.2.1 (nI v) && !dHO D else if u = 99 then !dHO D && !decide (D.2.2.1 v = 1) else if u = 104 then dHO D else if u = 108 then !dHO D && decide (D.2.2.1 v = 1) else if u = 112 then !dHO D && decide (0 < cW D.2.2.1) else if u = 120 then dHO D else true
def pDo (S : SS) (D : DS) (u : Int32) (v : Nat) : SS × DS := if u = 43 then (S, dAdd D (nI v)) else if u = 45 then (S, dRem D v) else if u = 99 then (S, dWel D v) else if u = 104 then (S, dNext D) else if u = 108 then (S, dDis D v) else if u = 112 then (shOut S D, mpD S D) else if u = 120 then (S, dBack D) else (S, dBring D)
def pGo (S : SS) (D : DS) (u : Int32) (v : Nat) : SS × DS := if pMay D u v = true then pDo S D u v else (S, D)
theorem mayAdd_lt {b : Bool} {n : Nat} (h : (b && decide (n < 20)) = true) : n < 20 := by
  cases b
  · cases h
  · exact of_decide_eq_true h
theorem mayRem_lt {b : Bool} {n v : Nat} (hv : v < 1000) (hn : n ≤ 20) (h : (dHas n (nI v) && b) = true) : v < n := by
  cases h9 : dHas n (nI v) with
  | false => rw [h9] at h; cases h
  | true =>
    unfold dHas at h9
    by_cases c : v < n
    · exact c
    · have h8 : nI n ≤ nI v := (nI_leI (by omega) (by omega)).mpr (by omega)
      simp [h8] at h9
theorem pMay_43 (D : DS) (v : Nat) {u : Int32} (h : u = 43) : pMay D u v = (!dHO D && decide (D.2.2.2.2.2.1 < 20)) := by subst h; rfl
theorem pMay_45 (D : DS) (v : Nat) {u : Int32} (h : u = 45) : pMay D u v = (dHas D.2.2.2.2.2.1 (nI v) && !dHO D) := by subst h; rfl
theorem pMay_99 (D : DS) (v : Nat) {u : Int32} (h : u = 99) : pMay D u v = (!dHO D && !decide (D.2.2.1 v = 1)) := by subst h; rfl
theorem pMay_108 (D : DS) (v : Nat) {u : Int32} (h : u = 108) : pMay D u v = (!dHO D && decide (D.2.2.1 v = 1)) := by subst h; rfl
theorem pDo_43 (S : SS) (D : DS) (v : Nat) {u : Int32} (h : u = 43) : pDo S D u v = (S, dAdd D (nI v)) := by subst h; rfl
theorem pDo_45 (S : SS) (D : DS) (v : Nat) {u : Int32} (h : u = 45) : pDo S D u v = (S, dRem D v) := by subst h; rfl
theorem pDo_99 (S : SS) (D : DS) (v : Nat) {u : Int32} (h : u = 99) : pDo S D u v = (S, dWel D v) := by subst h; rfl
theorem pDo_104 (S : SS) (D : DS) (v : Nat) {u : Int32} (h : u = 104) : pDo S D u v = (S, dNext D) := by subst h; rfl
theorem pDo_108 (S : SS) (D : DS) (v : Nat) {u : Int32} (h : u = 108) : pDo S D u v = (S, dDis D v) := by subst h; rfl
theorem pDo_112 (S : SS) (D : DS) (v : Nat) {u : Int32} (h : u = 112) : pDo S D u v = (shOut S D, mpD S D) := by subst h; rfl
theorem pDo_120 (S : SS) (D : DS) (v : Nat) {u : Int32} (h : u = 120) : pDo S D u v = (S, dBack D) := by subst h; rfl
theorem pDo_0 (S : SS) (D : DS) (v : Nat) {u : Int32} (h43 : ¬ u = 43) (h45 : ¬ u = 45) (h99 : ¬ u = 99) (h104 : ¬ u = 104) (h108 : ¬ u = 108) (h112 : ¬ u = 112) (h120 : ¬ u = 120) : pDo S D u v = (S, dBring D) := by unfold pDo; rw [if_neg h43, if_neg h45, if_neg h99, if_neg h104, if_neg h108, if_neg h112, if_neg h120]

abbrev rm_X5_makePlan : Room := { frames := 4, cells := 0, slots := 0, locals := 92 }
set_option maxHeartbeats 4000000 in
set_option maxRecDepth 100000 in
theorem c_X5_makePlan (l : Launch) (G : va_G) (cyI cyO : ClassId) (h : Nat) (Ad At As Ac : Nat → Nat) (L : Nat → Nat → Nat) (S : SS) (D : DS) (hn : D.2.2.2.2.2.1 ≤ 20) : CI l G (TY cyI cyO) yX5_makePlan wsX5_makePlan rm_X5_makePlan [.ref (h)] [[(h, .inr (5, [.ref (Ad 0), .ref (At 0), .ref (As 0), .ref (Ac 0), .ref (L 6 0)]))], shW cyI As S, dyW cyI Ad D] (shRes S D) [[(h, .inr (5, [.ref (Ad 0), .ref (At 0), .ref (As 0), .ref (Ac 0), .ref (L 6 0)]))], shW cyI As (shOut S D), dyW cyI Ad (mpD S D)] := by
  refine wk_I (cc := cX5_makePlan) (maxL := 2) (ret := (some .int)) (by decide) rfl (Nat.le_of_ble_eq_true rfl) ?_
  intro p9 e9 s9 m9 b9 t9 c9 A9 ls hx hb hr hts hown hlocks hml hK hA hD hP hl hS hnm
  have hl : lv_has ls 2 [(0, .ref (h))] := hl
  have hinX5 : ∀ w ∈ wsX50, w ∈ wsX5_makePlan := by decide +kernel
  have hf10 := hts (.fieldLink RX5 10 "DoorstepRounds" "dairy" "LDoorstepRounds$Dairy;") (by decide +kernel)
  have hf22 := hts (.fieldLink RX5 22 "DoorstepRounds" "sharing" "LDoorstepRounds$Sharing;") (by decide +kernel)
  refine lv_aload_n hx hb dX5_makePlan_0 rfl (lv_at hl 0 rfl) ?_
  refine va_get (v := .ref (As 0)) (C := RX5) (T := TX5) (N := 5) hx hb hts hinX5 hown hK hP 0 rfl rfl 2 (by decide) hf22 (fun _ h9 => h9) rfl dX5_makePlan_1 ?_
  refine lv_aload_n hx hb dX5_makePlan_4 rfl (lv_at hl 0 rfl) ?_
  refine va_get (v := .ref (Ad 0)) (C := RX5) (T := TX5) (N := 5) hx hb hts hinX5 hown hK hP 0 rfl rfl 0 (by decide) hf10 (fun _ h9 => h9) rfl dX5_makePlan_5 ?_
  refine gVi (gs := [[(h, .inr (5, [.ref (Ad 0), .ref (At 0), .ref (As 0), .ref (Ac 0), .ref (L 6 0)]))], shW cyI As S, dyW cyI Ad D]) (As := [.ref (Ad 0)]) (rest := []) ⟨hx, hb, hml, hown, hts⟩ (c_X4_shareOut l G cyI cyO As Ad S D (by omega)) (cwV 1 hts gX5_makePlan_X4_shareOut rfl rfl rfl (by decide +kernel) ⟨Nat.le_of_ble_eq_true rfl, Nat.le_of_ble_eq_true rfl⟩) hK hP hD hS hA [1, 2] rfl rfl rfl 0 4 rfl rfl rfl hl.1 rfl (Nat.le_of_ble_eq_true rfl) dX5_makePlan_8 ⟨Nat.le_refl _, Nat.le_refl _⟩ (fun H locs hP hD hS => ?_)
  have hP : va_P G vwCl (cat [[(h, .inr (5, [.ref (Ad 0), .ref (At 0), .ref (As 0), .ref (Ac 0), .ref (L 6 0)]))], shW cyI As (shOut S D), dyW cyI Ad D]) H := hP
  have hD : va_D A9 (cat [[(h, .inr (5, [.ref (Ad 0), .ref (At 0), .ref (As 0), .ref (Ac 0), .ref (L 6 0)]))], shW cyI As (shOut S D), dyW cyI Ad D]) := hD
  refine lv_istore_n (lv' := [(1, .int (shRes S D)), (0, .ref (h))]) hx hb dX5_makePlan_11 rfl hl (by decide) rfl (fun ls hl => ?_)
  refine lv_iload_n hx hb dX5_makePlan_12 rfl (lv_at hl 0 rfl) ?_
  refine lv_if_le (tgt := 27) hx hb dX5_makePlan_13 (by decide) (fun c_13 => ?_) (fun c_13 => ?_)
  · have ew : mpD S D = D := if_pos c_13
    refine lv_iload_n hx hb dX5_makePlan_27 rfl (lv_at hl 0 rfl) ?_
    have hgo : cat [[(h, .inr (5, [.ref (Ad 0), .ref (At 0), .ref (As 0), .ref (Ac 0), .ref (L 6 0)]))], shW cyI As (shOut S D), dyW cyI Ad D] = cat [[(h, .inr (5, [.ref (Ad 0), .ref (At 0), .ref (As 0), .ref (Ac 0), .ref (L 6 0)]))], shW cyI As (shOut S D), dyW cyI Ad (mpD S D)] := by rw [ew] <;> rfl
    rw [hgo] at hP hD
    have hP : va_P G vwCl (cat [[(h, .inr (5, [.ref (Ad 0), .ref (At 0), .ref (As 0), .ref (Ac 0), .ref (L 6 0)]))], shW cyI As (shOut S D), dyW cyI Ad (mpD S D)]) H := hP
    have hD : va_D A9 (cat [[(h, .inr (5, [.ref (Ad 0), .ref (At 0), .ref (As 0), .ref (Ac 0), .ref (L 6 0)]))], shW cyI As (shOut S D), dyW cyI Ad (mpD S D)]) := hD
    exact end_i hx hb hr hlocks hK hP hD hS (rfl) dX5_makePlan_28
  · have ew : mpD S D = dBg D (shOut S D) := if_neg c_13
    refine lv_aload_n hx hb dX5_makePlan_16 rfl (lv_at hl 1 rfl) ?_
    refine va_get (v := .ref (Ad 0)) (C := RX5) (T := TX5) (N := 5) hx hb hts hinX5 hown hK hP 0 rfl rfl 0 (by decide) hf10 (fun _ h9 => h9) rfl dX5_makePlan_17 ?_
    refine lv_aload_n hx hb dX5_makePlan_20 rfl (lv_at hl 1 rfl) ?_
    refine va_get (v := .ref (As 0)) (C := RX5) (T := TX5) (N := 5) hx hb hts hinX5 hown hK hP 0 rfl rfl 2 (by decide) hf22 (fun _ h9 => h9) rfl dX5_makePlan_21 ?_
    refine gVv (gs := [[(h, .inr (5, [.ref (Ad 0), .ref (At 0), .ref (As 0), .ref (Ac 0), .ref (L 6 0)]))], shW cyI As (shOut S D), dyW cyI Ad D]) (As := [.ref (As 0)]) (rest := []) ⟨hx, hb, hml, hown, hts⟩ (c_X1_beginHandover l G cyI cyO Ad As D (shOut S D) (by omega)) (cwV 1 hts gX5_makePlan_X1_beginHandover rfl rfl rfl (by decide +kernel) ⟨Nat.le_of_ble_eq_true rfl, Nat.le_of_ble_eq_true rfl⟩) hK hP hD hS hA [2, 1] rfl rfl rfl 0 1 rfl rfl rfl hl.1 rfl (Nat.le_of_ble_eq_true rfl) dX5_makePlan_24 ⟨Nat.le_refl _, Nat.le_refl _⟩ (fun H locs hP hD hS => ?_)
    have hP : va_P G vwCl (cat [[(h, .inr (5, [.ref (Ad 0), .ref (At 0), .ref (As 0), .ref (Ac 0), .ref (L 6 0)]))], shW cyI As (shOut S D), dyW cyI Ad ((D.1, D.2.1, D.2.2.1, rowCopy D.2.2.2.1 (shOut S D).1 D.2.2.2.2.2.1, rowCopy D.2.2.2.2.1 D.2.1 20, D.2.2.2.2.2.1, 1, D.2.2.2.2.2.2.2.1, D.2.2.2.2.2.2.2.2.1, D.2.2.2.2.2.2.2.2.2))]) H := hP
    have hD : va_D A9 (cat [[(h, .inr (5, [.ref (Ad 0), .ref (At 0), .ref (As 0), .ref (Ac 0), .ref (L 6 0)]))], shW cyI As (shOut S D), dyW cyI Ad ((D.1, D.2.1, D.2.2.1, rowCopy D.2.2.2.1 (shOut S D).1 D.2.2.2.2.2.1, rowCopy D.2.2.2.2.1 D.2.1 20, D.2.2.2.2.2.1, 1, D.2.2.2.2.2.2.2.1, D.2.2.2.2.2.2.2.2.1, D.2.2.2.2.2.2.2.2.2))]) := hD
    refine lv_iload_n hx hb dX5_makePlan_27 rfl (lv_at hl 0 rfl) ?_
    have hgo : cat [[(h, .inr (5, [.ref (Ad 0), .ref (At 0), .ref (As 0), .ref (Ac 0), .ref (L 6 0)]))], shW cyI As (shOut S D), dyW cyI Ad ((D.1, D.2.1, D.2.2.1, rowCopy D.2.2.2.1 (shOut S D).1 D.2.2.2.2.2.1, rowCopy D.2.2.2.2.1 D.2.1 20, D.2.2.2.2.2.1, 1, D.2.2.2.2.2.2.2.1, D.2.2.2.2.2.2.2.2.1, D.2.2.2.2.2.2.2.2.2))] = cat [[(h, .inr (5, [.ref (Ad 0), .ref (At 0), .ref (As 0), .ref (Ac 0), .ref (L 6 0)]))], shW cyI As (shOut S D), dyW cyI Ad (mpD S D)] := by rw [ew] <;> rfl
    rw [hgo] at hP hD
    have hP : va_P G vwCl (cat [[(h, .inr (5, [.ref (Ad 0), .ref (At 0), .ref (As 0), .ref (Ac 0), .ref (L 6 0)]))], shW cyI As (shOut S D), dyW cyI Ad (mpD S D)]) H := hP
    have hD : va_D A9 (cat [[(h, .inr (5, [.ref (Ad 0), .ref (At 0), .ref (As 0), .ref (Ac 0), .ref (L 6 0)]))], shW cyI As (shOut S D), dyW cyI Ad (mpD S D)]) := hD
    exact end_i hx hb hr hlocks hK hP hD hS (rfl) dX5_makePlan_28
abbrev rm_X5_reasonInPlan : Room := { frames := 3, cells := 0, slots := 0, locals := 64 }
set_option maxHeartbeats 4000000 in
set_option maxRecDepth 100000 in
theorem c_X5_reasonInPlan (l : Launch) (G : va_G) (cyI cyO : ClassId) (h : Nat) (Ad At As Ac : Nat → Nat) (L : Nat → Nat → Nat) (S : SS) (D : DS) (k : Nat) (hk : k < 20) : CI l G (TY cyI cyO) yX5_reasonInPlan wsX5_reasonInPlan rm_X5_reasonInPlan [.ref (h), .int (nI (k))] [[(h, .inr (5, [.ref (Ad 0), .ref (At 0), .ref (As 0), .ref (Ac 0), .ref (L 6 0)]))], shW cyI As S, dyW cyI Ad D] (rsn S D k) [[(h, .inr (5, [.ref (Ad 0), .ref (At 0), .ref (As 0), .ref (Ac 0), .ref (L 6 0)]))], shW cyI As S, dyW cyI Ad D] := by
  refine wk_I (cc := cX5_reasonInPlan) (maxL := 3) (ret := (some .int)) (by decide) rfl (Nat.le_of_ble_eq_true rfl) ?_
  intro p9 e9 s9 m9 b9 t9 c9 A9 ls hx hb hr hts hown hlocks hml hK hA hD hP hl hS hnm
  have hl : lv_has ls 3 [(0, .ref (h)), (1, .int (nI (k)))] := hl
  have hinX5 : ∀ w ∈ wsX50, w ∈ wsX5_reasonInPlan := by decide +kernel
  have hf10 := hts (.fieldLink RX5 10 "DoorstepRounds" "dairy" "LDoorstepRounds$Dairy;") (by decide +kernel)
  have hf22 := hts (.fieldLink RX5 22 "DoorstepRounds" "sharing" "LDoorstepRounds$Sharing;") (by decide +kernel)
  have hw6 := cW_le D.2.2.1
  refine lv_aload_n hx hb dX5_reasonInPlan_0 rfl (lv_at hl 0 rfl) ?_
  refine va_get (v := .ref (Ad 0)) (C := RX5) (T := TX5) (N := 5) hx hb hts hinX5 hown hK hP 0 rfl rfl 0 (by decide) hf10 (fun _ h9 => h9) rfl dX5_reasonInPlan_1 ?_
  refine gVi (gs := [[(h, .inr (5, [.ref (Ad 0), .ref (At 0), .ref (As 0), .ref (Ac 0), .ref (L 6 0)]))], shW cyI As S, dyW cyI Ad D]) (As := []) (rest := []) ⟨hx, hb, hml, hown, hts⟩ (c_X1_countAtWork l G cyI cyO Ad D) (cwV 0 hts gX5_reasonInPlan_X1_countAtWork rfl rfl rfl (by decide +kernel) ⟨Nat.le_of_ble_eq_true rfl, Nat.le_of_ble_eq_true rfl⟩) hK hP hD hS hA [2] rfl rfl rfl 0 1 rfl rfl rfl hl.1 rfl (Nat.le_of_ble_eq_true rfl) dX5_reasonInPlan_4 ⟨Nat.le_refl _, Nat.le_refl _⟩ (fun H locs hP hD hS => ?_)
  have hP : va_P G vwCl (cat [[(h, .inr (5, [.ref (Ad 0), .ref (At 0), .ref (As 0), .ref (Ac 0), .ref (L 6 0)]))], shW cyI As S, dyW cyI Ad D]) H := hP
  have hD : va_D A9 (cat [[(h, .inr (5, [.ref (Ad 0), .ref (At 0), .ref (As 0), .ref (Ac 0), .ref (L 6 0)]))], shW cyI As S, dyW cyI Ad D]) := hD
  refine lv_if_ne (tgt := 12) hx hb dX5_reasonInPlan_7 (by decide) (fun c_7 => ?_) (fun c_7 => ?_)
  · have c_7 : ¬ (cW D.2.2.1) = (0) := fun h9 => c_7 ((nI_eq (a := cW D.2.2.1) (b := 0) (by omega) (by omega)).mpr h9)
    refine lv_aload_n hx hb dX5_reasonInPlan_12 rfl (lv_at hl 0 rfl) ?_
    refine va_get (v := .ref (Ad 0)) (C := RX5) (T := TX5) (N := 5) hx hb hts hinX5 hown hK hP 0 rfl rfl 0 (by decide) hf10 (fun _ h9 => h9) rfl dX5_reasonInPlan_13 ?_
    refine lv_iload_n hx hb dX5_reasonInPlan_16 rfl (lv_at hl 1 rfl) ?_
    refine gVi (gs := [[(h, .inr (5, [.ref (Ad 0), .ref (At 0), .ref (As 0), .ref (Ac 0), .ref (L 6 0)]))], shW cyI As S, dyW cyI Ad D]) (As := [.int (nI (k))]) (rest := []) ⟨hx, hb, hml, hown, hts⟩ (c_X1_ownerOf l G cyI cyO Ad D k (by omega)) (cwV 1 hts gX5_reasonInPlan_X1_ownerOf rfl rfl rfl (by decide +kernel) ⟨Nat.le_of_ble_eq_true rfl, Nat.le_of_ble_eq_true rfl⟩) hK hP hD hS hA [2] rfl rfl rfl 0 1 rfl rfl rfl hl.1 rfl (Nat.le_of_ble_eq_true rfl) dX5_reasonInPlan_17 ⟨Nat.le_refl _, Nat.le_refl _⟩ (fun H locs hP hD hS => ?_)
    have hP : va_P G vwCl (cat [[(h, .inr (5, [.ref (Ad 0), .ref (At 0), .ref (As 0), .ref (Ac 0), .ref (L 6 0)]))], shW cyI As S, dyW cyI Ad D]) H := hP
    have hD : va_D A9 (cat [[(h, .inr (5, [.ref (Ad 0), .ref (At 0), .ref (As 0), .ref (Ac 0), .ref (L 6 0)]))], shW cyI As S, dyW cyI Ad D]) := hD
    refine lv_istore_n (lv' := [(2, .int (D.2.1 k)), (0, .ref (h)), (1, .int (nI (k)))]) hx hb dX5_reasonInPlan_20 rfl hl (by decide) rfl (fun ls hl => ?_)
    refine lv_iload_n hx hb dX5_reasonInPlan_21 rfl (lv_at hl 0 rfl) ?_
    refine lv_aload_n hx hb dX5_reasonInPlan_22 rfl (lv_at hl 1 rfl) ?_
    refine va_get (v := .ref (As 0)) (C := RX5) (T := TX5) (N := 5) hx hb hts hinX5 hown hK hP 0 rfl rfl 2 (by decide) hf22 (fun _ h9 => h9) rfl dX5_reasonInPlan_23 ?_
    refine lv_iload_n hx hb dX5_reasonInPlan_26 rfl (lv_at hl 2 rfl) ?_
    refine gVi (gs := [[(h, .inr (5, [.ref (Ad 0), .ref (At 0), .ref (As 0), .ref (Ac 0), .ref (L 6 0)]))], shW cyI As S, dyW cyI Ad D]) (As := [.int (nI (k))]) (rest := [.int (D.2.1 k)]) ⟨hx, hb, hml, hown, hts⟩ (c_X4_ownerInPlan l G cyI cyO As S k (by omega)) (cwV 1 hts gX5_reasonInPlan_X4_ownerInPlan rfl rfl rfl (by decide +kernel) ⟨Nat.le_of_ble_eq_true rfl, Nat.le_of_ble_eq_true rfl⟩) hK hP hD hS hA [1] rfl rfl rfl 0 4 rfl rfl rfl hl.1 rfl (Nat.le_of_ble_eq_true rfl) dX5_reasonInPlan_27 ⟨Nat.le_refl _, Nat.le_refl _⟩ (fun H locs hP hD hS => ?_)
    have hP : va_P G vwCl (cat [[(h, .inr (5, [.ref (Ad 0), .ref (At 0), .ref (As 0), .ref (Ac 0), .ref (L 6 0)]))], shW cyI As S, dyW cyI Ad D]) H := hP
    have hD : va_D A9 (cat [[(h, .inr (5, [.ref (Ad 0), .ref (At 0), .ref (As 0), .ref (Ac 0), .ref (L 6 0)]))], shW cyI As S, dyW cyI Ad D]) := hD
    refine lv_icmp_ne (tgt := 35) hx hb dX5_reasonInPlan_30 (by decide) (fun c_30 => ?_) (fun c_30 => ?_)
    · refine lv_iload_n hx hb dX5_reasonInPlan_35 rfl (lv_at hl 0 rfl) ?_
      refine lv_iconst (v := (-1 : Int32)) hx hb dX5_reasonInPlan_36 (by decide) ?_
      refine lv_icmp_ne (tgt := 44) hx hb dX5_reasonInPlan_37 (by decide) (fun c_37 => ?_) (fun c_37 => ?_)
      · refine lv_iconst (v := (3 : Int32)) hx hb dX5_reasonInPlan_44 (by decide) ?_
        have hP : va_P G vwCl (cat [[(h, .inr (5, [.ref (Ad 0), .ref (At 0), .ref (As 0), .ref (Ac 0), .ref (L 6 0)]))], shW cyI As S, dyW cyI Ad D]) H := hP
        have hD : va_D A9 (cat [[(h, .inr (5, [.ref (Ad 0), .ref (At 0), .ref (As 0), .ref (Ac 0), .ref (L 6 0)]))], shW cyI As S, dyW cyI Ad D]) := hD
        exact end_i hx hb hr hlocks hK hP hD hS (by first | (rw [rsn, if_pos c_7]; done) | (rw [rsn, if_neg c_7, if_pos c_30]; done) | (rw [rsn, if_neg c_7, if_neg c_30, if_pos c_37]; done) | (rw [rsn, if_neg c_7, if_neg c_30, if_neg c_37]; done)) dX5_reasonInPlan_45
      · refine lv_iconst (v := (2 : Int32)) hx hb dX5_reasonInPlan_40 (by decide) ?_
        refine lv_goto (tgt := 45) hx hb dX5_reasonInPlan_41 (by decide) ?_
        have hP : va_P G vwCl (cat [[(h, .inr (5, [.ref (Ad 0), .ref (At 0), .ref (As 0), .ref (Ac 0), .ref (L 6 0)]))], shW cyI As S, dyW cyI Ad D]) H := hP
        have hD : va_D A9 (cat [[(h, .inr (5, [.ref (Ad 0), .ref (At 0), .ref (As 0), .ref (Ac 0), .ref (L 6 0)]))], shW cyI As S, dyW cyI Ad D]) := hD
        exact end_i hx hb hr hlocks hK hP hD hS (by first | (rw [rsn, if_pos c_7]; done) | (rw [rsn, if_neg c_7, if_pos c_30]; done) | (rw [rsn, if_neg c_7, if_neg c_30, if_pos c_37]; done) | (rw [rsn, if_neg c_7, if_neg c_30, if_neg c_37]; done)) dX5_reasonInPlan_45
    · refine lv_iconst (v := (0 : Int32)) hx hb dX5_reasonInPlan_33 (by decide) ?_
      have hP : va_P G vwCl (cat [[(h, .inr (5, [.ref (Ad 0), .ref (At 0), .ref (As 0), .ref (Ac 0), .ref (L 6 0)]))], shW cyI As S, dyW cyI Ad D]) H := hP
      have hD : va_D A9 (cat [[(h, .inr (5, [.ref (Ad 0), .ref (At 0), .ref (As 0), .ref (Ac 0), .ref (L 6 0)]))], shW cyI As S, dyW cyI Ad D]) := hD
      exact end_i hx hb hr hlocks hK hP hD hS (by first | (rw [rsn, if_pos c_7]; done) | (rw [rsn, if_neg c_7, if_pos c_30]; done) | (rw [rsn, if_neg c_7, if_neg c_30, if_pos c_37]; done) | (rw [rsn, if_neg c_7, if_neg c_30, if_neg c_37]; done)) dX5_reasonInPlan_34
  · have c_7 : (cW D.2.2.1) = (0) := (nI_eq (a := cW D.2.2.1) (b := 0) (by omega) (by omega)).mp c_7
    refine lv_iconst (v := (1 : Int32)) hx hb dX5_reasonInPlan_10 (by decide) ?_
    have hP : va_P G vwCl (cat [[(h, .inr (5, [.ref (Ad 0), .ref (At 0), .ref (As 0), .ref (Ac 0), .ref (L 6 0)]))], shW cyI As S, dyW cyI Ad D]) H := hP
    have hD : va_D A9 (cat [[(h, .inr (5, [.ref (Ad 0), .ref (At 0), .ref (As 0), .ref (Ac 0), .ref (L 6 0)]))], shW cyI As S, dyW cyI Ad D]) := hD
    exact end_i hx hb hr hlocks hK hP hD hS (by first | (rw [rsn, if_pos c_7]; done) | (rw [rsn, if_neg c_7, if_pos c_30]; done) | (rw [rsn, if_neg c_7, if_neg c_30, if_pos c_37]; done) | (rw [rsn, if_neg c_7, if_neg c_30, if_neg c_37]; done)) dX5_reasonInPlan_11
abbrev rm_X5_changesIfSwitched : Room := { frames := 4, cells := 0, slots := 0, locals := 92 }
set_option maxHeartbeats 4000000 in
set_option maxRecDepth 100000 in
theorem c_X5_changesIfSwitched (l : Launch) (G : va_G) (cyI cyO : ClassId) (h : Nat) (Ad At As Ac : Nat → Nat) (L : Nat → Nat → Nat) (S : SS) (T : DS) (D : DS) (k : Nat) (hk : k < 6) (hn : D.2.2.2.2.2.1 ≤ 20) : CI l G (TY cyI cyO) yX5_changesIfSwitched wsX5_changesIfSwitched rm_X5_changesIfSwitched [.ref (h), .int (nI (k))] [[(h, .inr (5, [.ref (Ad 0), .ref (At 0), .ref (As 0), .ref (Ac 0), .ref (L 6 0)]))], shW cyI As S, dyW cyI At T, dyW cyI Ad D] (shRes S (dSw T D k)) [[(h, .inr (5, [.ref (Ad 0), .ref (At 0), .ref (As 0), .ref (Ac 0), .ref (L 6 0)]))], shW cyI As (shOut S (dSw T D k)), dyW cyI At (dSw T D k), dyW cyI Ad D] := by
  refine wk_I (cc := cX5_changesIfSwitched) (maxL := 2) (ret := (some .int)) (by decide) rfl (Nat.le_of_ble_eq_true rfl) ?_
  intro p9 e9 s9 m9 b9 t9 c9 A9 ls hx hb hr hts hown hlocks hml hK hA hD hP hl hS hnm
  have hl : lv_has ls 2 [(0, .ref (h)), (1, .int (nI (k)))] := hl
  have hinX5 : ∀ w ∈ wsX50, w ∈ wsX5_changesIfSwitched := by decide +kernel
  have hf10 := hts (.fieldLink RX5 10 "DoorstepRounds" "dairy" "LDoorstepRounds$Dairy;") (by decide +kernel)
  have hf16 := hts (.fieldLink RX5 16 "DoorstepRounds" "trial" "LDoorstepRounds$Dairy;") (by decide +kernel)
  have hf22 := hts (.fieldLink RX5 22 "DoorstepRounds" "sharing" "LDoorstepRounds$Sharing;") (by decide +kernel)
  refine lv_aload_n hx hb dX5_changesIfSwitched_0 rfl (lv_at hl 0 rfl) ?_
  refine va_get (v := .ref (At 0)) (C := RX5) (T := TX5) (N := 5) hx hb hts hinX5 hown hK hP 0 rfl rfl 1 (by decide) hf16 (fun _ h9 => h9) rfl dX5_changesIfSwitched_1 ?_
  refine lv_aload_n hx hb dX5_changesIfSwitched_4 rfl (lv_at hl 0 rfl) ?_
  refine va_get (v := .ref (Ad 0)) (C := RX5) (T := TX5) (N := 5) hx hb hts hinX5 hown hK hP 0 rfl rfl 0 (by decide) hf10 (fun _ h9 => h9) rfl dX5_changesIfSwitched_5 ?_
  refine gVv (gs := [[(h, .inr (5, [.ref (Ad 0), .ref (At 0), .ref (As 0), .ref (Ac 0), .ref (L 6 0)]))], shW cyI As S, dyW cyI At T, dyW cyI Ad D]) (As := [.ref (Ad 0)]) (rest := []) ⟨hx, hb, hml, hown, hts⟩ (c_X1_copyFrom l G cyI cyO At Ad T D) (cwV 1 hts gX5_changesIfSwitched_X1_copyFrom rfl rfl rfl (by decide +kernel) ⟨Nat.le_of_ble_eq_true rfl, Nat.le_of_ble_eq_true rfl⟩) hK hP hD hS hA [2, 3] rfl rfl rfl 0 1 rfl rfl rfl hl.1 rfl (Nat.le_of_ble_eq_true rfl) dX5_changesIfSwitched_8 ⟨Nat.le_refl _, Nat.le_refl _⟩ (fun H locs hP hD hS => ?_)
  have hP : va_P G vwCl (cat [[(h, .inr (5, [.ref (Ad 0), .ref (At 0), .ref (As 0), .ref (Ac 0), .ref (L 6 0)]))], shW cyI As S, dyW cyI At (dCopy T D), dyW cyI Ad D]) H := hP
  have hD : va_D A9 (cat [[(h, .inr (5, [.ref (Ad 0), .ref (At 0), .ref (As 0), .ref (Ac 0), .ref (L 6 0)]))], shW cyI As S, dyW cyI At (dCopy T D), dyW cyI Ad D]) := hD
  refine lv_aload_n hx hb dX5_changesIfSwitched_11 rfl (lv_at hl 0 rfl) ?_
  refine va_get (v := .ref (At 0)) (C := RX5) (T := TX5) (N := 5) hx hb hts hinX5 hown hK hP 0 rfl rfl 1 (by decide) hf16 (fun _ h9 => h9) rfl dX5_changesIfSwitched_12 ?_
  refine lv_iload_n hx hb dX5_changesIfSwitched_15 rfl (lv_at hl 1 rfl) ?_
  refine gVi (gs := [[(h, .inr (5, [.ref (Ad 0), .ref (At 0), .ref (As 0), .ref (Ac 0), .ref (L 6 0)]))], shW cyI As S, dyW cyI At (dCopy T D), dyW cyI Ad D]) (As := [.int (nI (k))]) (rest := []) ⟨hx, hb, hml, hown, hts⟩ (c_X1_works l G cyI cyO At (dCopy T D) k (by omega)) (cwV 1 hts gX5_changesIfSwitched_X1_works rfl rfl rfl (by decide +kernel) ⟨Nat.le_of_ble_eq_true rfl, Nat.le_of_ble_eq_true rfl⟩) hK hP hD hS hA [2] rfl rfl rfl 0 1 rfl rfl rfl hl.1 rfl (Nat.le_of_ble_eq_true rfl) dX5_changesIfSwitched_16 ⟨Nat.le_refl _, Nat.le_refl _⟩ (fun H locs hP hD hS => ?_)
  have hP : va_P G vwCl (cat [[(h, .inr (5, [.ref (Ad 0), .ref (At 0), .ref (As 0), .ref (Ac 0), .ref (L 6 0)]))], shW cyI As S, dyW cyI At (dCopy T D), dyW cyI Ad D]) H := hP
  have hD : va_D A9 (cat [[(h, .inr (5, [.ref (Ad 0), .ref (At 0), .ref (As 0), .ref (Ac 0), .ref (L 6 0)]))], shW cyI As S, dyW cyI At (dCopy T D), dyW cyI Ad D]) := hD
  refine lv_if_eq (tgt := 34) hx hb dX5_changesIfSwitched_19 (by decide) (fun c_19 => ?_) (fun c_19 => ?_)
  · have c_19 : (decide ((dCopy T D).2.2.1 k = 1)) = false := bI_z.mp c_19
    have c_19 : ¬ ((dCopy T D).2.2.1 k = 1) := of_decide_eq_false c_19
    have ew : dSw T D k = dWel (dCopy T D) k := if_neg c_19
    refine lv_aload_n hx hb dX5_changesIfSwitched_34 rfl (lv_at hl 0 rfl) ?_
    refine va_get (v := .ref (At 0)) (C := RX5) (T := TX5) (N := 5) hx hb hts hinX5 hown hK hP 0 rfl rfl 1 (by decide) hf16 (fun _ h9 => h9) rfl dX5_changesIfSwitched_35 ?_
    refine lv_iload_n hx hb dX5_changesIfSwitched_38 rfl (lv_at hl 1 rfl) ?_
    refine gVi (gs := [[(h, .inr (5, [.ref (Ad 0), .ref (At 0), .ref (As 0), .ref (Ac 0), .ref (L 6 0)]))], shW cyI As S, dyW cyI At (dCopy T D), dyW cyI Ad D]) (As := [.int (nI (k))]) (rest := []) ⟨hx, hb, hml, hown, hts⟩ (c_X1_welcome l G cyI cyO At (dCopy T D) k (by omega)) (cwV 1 hts gX5_changesIfSwitched_X1_welcome rfl rfl rfl (by decide +kernel) ⟨Nat.le_of_ble_eq_true rfl, Nat.le_of_ble_eq_true rfl⟩) hK hP hD hS hA [2] rfl rfl rfl 0 1 rfl rfl rfl hl.1 rfl (Nat.le_of_ble_eq_true rfl) dX5_changesIfSwitched_39 ⟨Nat.le_refl _, Nat.le_refl _⟩ (fun H locs hP hD hS => ?_)
    have hP : va_P G vwCl (cat [[(h, .inr (5, [.ref (Ad 0), .ref (At 0), .ref (As 0), .ref (Ac 0), .ref (L 6 0)]))], shW cyI As S, dyW cyI At (((dCopy T D).1, (dCopy T D).2.1, upd (dCopy T D).2.2.1 k 1, (dCopy T D).2.2.2.1, (dCopy T D).2.2.2.2.1, (dCopy T D).2.2.2.2.2.1, (dCopy T D).2.2.2.2.2.2.1, (dCopy T D).2.2.2.2.2.2.2.1, (dCopy T D).2.2.2.2.2.2.2.2.1, (dCopy T D).2.2.2.2.2.2.2.2.2)), dyW cyI Ad D]) H := hP
    have hD : va_D A9 (cat [[(h, .inr (5, [.ref (Ad 0), .ref (At 0), .ref (As 0), .ref (Ac 0), .ref (L 6 0)]))], shW cyI As S, dyW cyI At (((dCopy T D).1, (dCopy T D).2.1, upd (dCopy T D).2.2.1 k 1, (dCopy T D).2.2.2.1, (dCopy T D).2.2.2.2.1, (dCopy T D).2.2.2.2.2.1, (dCopy T D).2.2.2.2.2.2.1, (dCopy T D).2.2.2.2.2.2.2.1, (dCopy T D).2.2.2.2.2.2.2.2.1, (dCopy T D).2.2.2.2.2.2.2.2.2)), dyW cyI Ad D]) := hD
    refine lv_pop hx hb dX5_changesIfSwitched_42 rfl ?_
    refine lv_aload_n hx hb dX5_changesIfSwitched_43 rfl (lv_at hl 0 rfl) ?_
    refine va_get (v := .ref (As 0)) (C := RX5) (T := TX5) (N := 5) hx hb hts hinX5 hown hK hP 0 rfl rfl 2 (by decide) hf22 (fun _ h9 => h9) rfl dX5_changesIfSwitched_44 ?_
    refine lv_aload_n hx hb dX5_changesIfSwitched_47 rfl (lv_at hl 0 rfl) ?_
    refine va_get (v := .ref (At 0)) (C := RX5) (T := TX5) (N := 5) hx hb hts hinX5 hown hK hP 0 rfl rfl 1 (by decide) hf16 (fun _ h9 => h9) rfl dX5_changesIfSwitched_48 ?_
    refine gVi (gs := [[(h, .inr (5, [.ref (Ad 0), .ref (At 0), .ref (As 0), .ref (Ac 0), .ref (L 6 0)]))], shW cyI As S, dyW cyI At (((dCopy T D).1, (dCopy T D).2.1, upd (dCopy T D).2.2.1 k 1, (dCopy T D).2.2.2.1, (dCopy T D).2.2.2.2.1, (dCopy T D).2.2.2.2.2.1, (dCopy T D).2.2.2.2.2.2.1, (dCopy T D).2.2.2.2.2.2.2.1, (dCopy T D).2.2.2.2.2.2.2.2.1, (dCopy T D).2.2.2.2.2.2.2.2.2)), dyW cyI Ad D]) (As := [.ref (At 0)]) (rest := []) ⟨hx, hb, hml, hown, hts⟩ (c_X4_shareOut l G cyI cyO As At S (((dCopy T D).1, (dCopy T D).2.1, upd (dCopy T D).2.2.1 k 1, (dCopy T D).2.2.2.1, (dCopy T D).2.2.2.2.1, (dCopy T D).2.2.2.2.2.1, (dCopy T D).2.2.2.2.2.2.1, (dCopy T D).2.2.2.2.2.2.2.1, (dCopy T D).2.2.2.2.2.2.2.2.1, (dCopy T D).2.2.2.2.2.2.2.2.2)) (hn)) (cwV 1 hts gX5_changesIfSwitched_X4_shareOut rfl rfl rfl (by decide +kernel) ⟨Nat.le_of_ble_eq_true rfl, Nat.le_of_ble_eq_true rfl⟩) hK hP hD hS hA [1, 2] rfl rfl rfl 0 4 rfl rfl rfl hl.1 rfl (Nat.le_of_ble_eq_true rfl) dX5_changesIfSwitched_51 ⟨Nat.le_refl _, Nat.le_refl _⟩ (fun H locs hP hD hS => ?_)
    have hP : va_P G vwCl (cat [[(h, .inr (5, [.ref (Ad 0), .ref (At 0), .ref (As 0), .ref (Ac 0), .ref (L 6 0)]))], shW cyI As (shOut S (((dCopy T D).1, (dCopy T D).2.1, upd (dCopy T D).2.2.1 k 1, (dCopy T D).2.2.2.1, (dCopy T D).2.2.2.2.1, (dCopy T D).2.2.2.2.2.1, (dCopy T D).2.2.2.2.2.2.1, (dCopy T D).2.2.2.2.2.2.2.1, (dCopy T D).2.2.2.2.2.2.2.2.1, (dCopy T D).2.2.2.2.2.2.2.2.2))), dyW cyI At (((dCopy T D).1, (dCopy T D).2.1, upd (dCopy T D).2.2.1 k 1, (dCopy T D).2.2.2.1, (dCopy T D).2.2.2.2.1, (dCopy T D).2.2.2.2.2.1, (dCopy T D).2.2.2.2.2.2.1, (dCopy T D).2.2.2.2.2.2.2.1, (dCopy T D).2.2.2.2.2.2.2.2.1, (dCopy T D).2.2.2.2.2.2.2.2.2)), dyW cyI Ad D]) H := hP
    have hD : va_D A9 (cat [[(h, .inr (5, [.ref (Ad 0), .ref (At 0), .ref (As 0), .ref (Ac 0), .ref (L 6 0)]))], shW cyI As (shOut S (((dCopy T D).1, (dCopy T D).2.1, upd (dCopy T D).2.2.1 k 1, (dCopy T D).2.2.2.1, (dCopy T D).2.2.2.2.1, (dCopy T D).2.2.2.2.2.1, (dCopy T D).2.2.2.2.2.2.1, (dCopy T D).2.2.2.2.2.2.2.1, (dCopy T D).2.2.2.2.2.2.2.2.1, (dCopy T D).2.2.2.2.2.2.2.2.2))), dyW cyI At (((dCopy T D).1, (dCopy T D).2.1, upd (dCopy T D).2.2.1 k 1, (dCopy T D).2.2.2.1, (dCopy T D).2.2.2.2.1, (dCopy T D).2.2.2.2.2.1, (dCopy T D).2.2.2.2.2.2.1, (dCopy T D).2.2.2.2.2.2.2.1, (dCopy T D).2.2.2.2.2.2.2.2.1, (dCopy T D).2.2.2.2.2.2.2.2.2)), dyW cyI Ad D]) := hD
    have hgo : cat [[(h, .inr (5, [.ref (Ad 0), .ref (At 0), .ref (As 0), .ref (Ac 0), .ref (L 6 0)]))], shW cyI As (shOut S (((dCopy T D).1, (dCopy T D).2.1, upd (dCopy T D).2.2.1 k 1, (dCopy T D).2.2.2.1, (dCopy T D).2.2.2.2.1, (dCopy T D).2.2.2.2.2.1, (dCopy T D).2.2.2.2.2.2.1, (dCopy T D).2.2.2.2.2.2.2.1, (dCopy T D).2.2.2.2.2.2.2.2.1, (dCopy T D).2.2.2.2.2.2.2.2.2))), dyW cyI At (((dCopy T D).1, (dCopy T D).2.1, upd (dCopy T D).2.2.1 k 1, (dCopy T D).2.2.2.1, (dCopy T D).2.2.2.2.1, (dCopy T D).2.2.2.2.2.1, (dCopy T D).2.2.2.2.2.2.1, (dCopy T D).2.2.2.2.2.2.2.1, (dCopy T D).2.2.2.2.2.2.2.2.1, (dCopy T D).2.2.2.2.2.2.2.2.2)), dyW cyI Ad D] = cat [[(h, .inr (5, [.ref (Ad 0), .ref (At 0), .ref (As 0), .ref (Ac 0), .ref (L 6 0)]))], shW cyI As (shOut S (dSw T D k)), dyW cyI At (dSw T D k), dyW cyI Ad D] := by rw [ew] <;> rfl
    rw [hgo] at hP hD
    have hP : va_P G vwCl (cat [[(h, .inr (5, [.ref (Ad 0), .ref (At 0), .ref (As 0), .ref (Ac 0), .ref (L 6 0)]))], shW cyI As (shOut S (dSw T D k)), dyW cyI At (dSw T D k), dyW cyI Ad D]) H := hP
    have hD : va_D A9 (cat [[(h, .inr (5, [.ref (Ad 0), .ref (At 0), .ref (As 0), .ref (Ac 0), .ref (L 6 0)]))], shW cyI As (shOut S (dSw T D k)), dyW cyI At (dSw T D k), dyW cyI Ad D]) := hD
    exact end_i hx hb hr hlocks hK hP hD hS (by rw [ew] <;> rfl) dX5_changesIfSwitched_54
  · have c_19 : (decide ((dCopy T D).2.2.1 k = 1)) = true := bI_nz.mp c_19
    have c_19 : ((dCopy T D).2.2.1 k = 1) := of_decide_eq_true c_19
    have ew : dSw T D k = dDis (dCopy T D) k := if_pos c_19
    refine lv_aload_n hx hb dX5_changesIfSwitched_22 rfl (lv_at hl 0 rfl) ?_
    refine va_get (v := .ref (At 0)) (C := RX5) (T := TX5) (N := 5) hx hb hts hinX5 hown hK hP 0 rfl rfl 1 (by decide) hf16 (fun _ h9 => h9) rfl dX5_changesIfSwitched_23 ?_
    refine lv_iload_n hx hb dX5_changesIfSwitched_26 rfl (lv_at hl 1 rfl) ?_
    refine gVi (gs := [[(h, .inr (5, [.ref (Ad 0), .ref (At 0), .ref (As 0), .ref (Ac 0), .ref (L 6 0)]))], shW cyI As S, dyW cyI At (dCopy T D), dyW cyI Ad D]) (As := [.int (nI (k))]) (rest := []) ⟨hx, hb, hml, hown, hts⟩ (c_X1_dismiss l G cyI cyO At (dCopy T D) k (hn) (by omega)) (cwV 1 hts gX5_changesIfSwitched_X1_dismiss rfl rfl rfl (by decide +kernel) ⟨Nat.le_of_ble_eq_true rfl, Nat.le_of_ble_eq_true rfl⟩) hK hP hD hS hA [2] rfl rfl rfl 0 1 rfl rfl rfl hl.1 rfl (Nat.le_of_ble_eq_true rfl) dX5_changesIfSwitched_27 ⟨Nat.le_refl _, Nat.le_refl _⟩ (fun H locs hP hD hS => ?_)
    have hP : va_P G vwCl (cat [[(h, .inr (5, [.ref (Ad 0), .ref (At 0), .ref (As 0), .ref (Ac 0), .ref (L 6 0)]))], shW cyI As S, dyW cyI At (((dCopy T D).1, (dsAll (dCopy T D).2.1 (dCopy T D).2.2.2.2.2.1 (nI k)).1, upd (dCopy T D).2.2.1 k 0, (dCopy T D).2.2.2.1, (dCopy T D).2.2.2.2.1, (dCopy T D).2.2.2.2.2.1, (dCopy T D).2.2.2.2.2.2.1, (dCopy T D).2.2.2.2.2.2.2.1, (dCopy T D).2.2.2.2.2.2.2.2.1, (dCopy T D).2.2.2.2.2.2.2.2.2)), dyW cyI Ad D]) H := hP
    have hD : va_D A9 (cat [[(h, .inr (5, [.ref (Ad 0), .ref (At 0), .ref (As 0), .ref (Ac 0), .ref (L 6 0)]))], shW cyI As S, dyW cyI At (((dCopy T D).1, (dsAll (dCopy T D).2.1 (dCopy T D).2.2.2.2.2.1 (nI k)).1, upd (dCopy T D).2.2.1 k 0, (dCopy T D).2.2.2.1, (dCopy T D).2.2.2.2.1, (dCopy T D).2.2.2.2.2.1, (dCopy T D).2.2.2.2.2.2.1, (dCopy T D).2.2.2.2.2.2.2.1, (dCopy T D).2.2.2.2.2.2.2.2.1, (dCopy T D).2.2.2.2.2.2.2.2.2)), dyW cyI Ad D]) := hD
    refine lv_pop hx hb dX5_changesIfSwitched_30 rfl ?_
    refine lv_goto (tgt := 43) hx hb dX5_changesIfSwitched_31 (by decide) ?_
    refine lv_aload_n hx hb dX5_changesIfSwitched_43 rfl (lv_at hl 0 rfl) ?_
    refine va_get (v := .ref (As 0)) (C := RX5) (T := TX5) (N := 5) hx hb hts hinX5 hown hK hP 0 rfl rfl 2 (by decide) hf22 (fun _ h9 => h9) rfl dX5_changesIfSwitched_44 ?_
    refine lv_aload_n hx hb dX5_changesIfSwitched_47 rfl (lv_at hl 0 rfl) ?_
    refine va_get (v := .ref (At 0)) (C := RX5) (T := TX5) (N := 5) hx hb hts hinX5 hown hK hP 0 rfl rfl 1 (by decide) hf16 (fun _ h9 => h9) rfl dX5_changesIfSwitched_48 ?_
    refine gVi (gs := [[(h, .inr (5, [.ref (Ad 0), .ref (At 0), .ref (As 0), .ref (Ac 0), .ref (L 6 0)]))], shW cyI As S, dyW cyI At (((dCopy T D).1, (dsAll (dCopy T D).2.1 (dCopy T D).2.2.2.2.2.1 (nI k)).1, upd (dCopy T D).2.2.1 k 0, (dCopy T D).2.2.2.1, (dCopy T D).2.2.2.2.1, (dCopy T D).2.2.2.2.2.1, (dCopy T D).2.2.2.2.2.2.1, (dCopy T D).2.2.2.2.2.2.2.1, (dCopy T D).2.2.2.2.2.2.2.2.1, (dCopy T D).2.2.2.2.2.2.2.2.2)), dyW cyI Ad D]) (As := [.ref (At 0)]) (rest := []) ⟨hx, hb, hml, hown, hts⟩ (c_X4_shareOut l G cyI cyO As At S (((dCopy T D).1, (dsAll (dCopy T D).2.1 (dCopy T D).2.2.2.2.2.1 (nI k)).1, upd (dCopy T D).2.2.1 k 0, (dCopy T D).2.2.2.1, (dCopy T D).2.2.2.2.1, (dCopy T D).2.2.2.2.2.1, (dCopy T D).2.2.2.2.2.2.1, (dCopy T D).2.2.2.2.2.2.2.1, (dCopy T D).2.2.2.2.2.2.2.2.1, (dCopy T D).2.2.2.2.2.2.2.2.2)) (hn)) (cwV 1 hts gX5_changesIfSwitched_X4_shareOut rfl rfl rfl (by decide +kernel) ⟨Nat.le_of_ble_eq_true rfl, Nat.le_of_ble_eq_true rfl⟩) hK hP hD hS hA [1, 2] rfl rfl rfl 0 4 rfl rfl rfl hl.1 rfl (Nat.le_of_ble_eq_true rfl) dX5_changesIfSwitched_51 ⟨Nat.le_refl _, Nat.le_refl _⟩ (fun H locs hP hD hS => ?_)
    have hP : va_P G vwCl (cat [[(h, .inr (5, [.ref (Ad 0), .ref (At 0), .ref (As 0), .ref (Ac 0), .ref (L 6 0)]))], shW cyI As (shOut S (((dCopy T D).1, (dsAll (dCopy T D).2.1 (dCopy T D).2.2.2.2.2.1 (nI k)).1, upd (dCopy T D).2.2.1 k 0, (dCopy T D).2.2.2.1, (dCopy T D).2.2.2.2.1, (dCopy T D).2.2.2.2.2.1, (dCopy T D).2.2.2.2.2.2.1, (dCopy T D).2.2.2.2.2.2.2.1, (dCopy T D).2.2.2.2.2.2.2.2.1, (dCopy T D).2.2.2.2.2.2.2.2.2))), dyW cyI At (((dCopy T D).1, (dsAll (dCopy T D).2.1 (dCopy T D).2.2.2.2.2.1 (nI k)).1, upd (dCopy T D).2.2.1 k 0, (dCopy T D).2.2.2.1, (dCopy T D).2.2.2.2.1, (dCopy T D).2.2.2.2.2.1, (dCopy T D).2.2.2.2.2.2.1, (dCopy T D).2.2.2.2.2.2.2.1, (dCopy T D).2.2.2.2.2.2.2.2.1, (dCopy T D).2.2.2.2.2.2.2.2.2)), dyW cyI Ad D]) H := hP
    have hD : va_D A9 (cat [[(h, .inr (5, [.ref (Ad 0), .ref (At 0), .ref (As 0), .ref (Ac 0), .ref (L 6 0)]))], shW cyI As (shOut S (((dCopy T D).1, (dsAll (dCopy T D).2.1 (dCopy T D).2.2.2.2.2.1 (nI k)).1, upd (dCopy T D).2.2.1 k 0, (dCopy T D).2.2.2.1, (dCopy T D).2.2.2.2.1, (dCopy T D).2.2.2.2.2.1, (dCopy T D).2.2.2.2.2.2.1, (dCopy T D).2.2.2.2.2.2.2.1, (dCopy T D).2.2.2.2.2.2.2.2.1, (dCopy T D).2.2.2.2.2.2.2.2.2))), dyW cyI At (((dCopy T D).1, (dsAll (dCopy T D).2.1 (dCopy T D).2.2.2.2.2.1 (nI k)).1, upd (dCopy T D).2.2.1 k 0, (dCopy T D).2.2.2.1, (dCopy T D).2.2.2.2.1, (dCopy T D).2.2.2.2.2.1, (dCopy T D).2.2.2.2.2.2.1, (dCopy T D).2.2.2.2.2.2.2.1, (dCopy T D).2.2.2.2.2.2.2.2.1, (dCopy T D).2.2.2.2.2.2.2.2.2)), dyW cyI Ad D]) := hD
    have hgo : cat [[(h, .inr (5, [.ref (Ad 0), .ref (At 0), .ref (As 0), .ref (Ac 0), .ref (L 6 0)]))], shW cyI As (shOut S (((dCopy T D).1, (dsAll (dCopy T D).2.1 (dCopy T D).2.2.2.2.2.1 (nI k)).1, upd (dCopy T D).2.2.1 k 0, (dCopy T D).2.2.2.1, (dCopy T D).2.2.2.2.1, (dCopy T D).2.2.2.2.2.1, (dCopy T D).2.2.2.2.2.2.1, (dCopy T D).2.2.2.2.2.2.2.1, (dCopy T D).2.2.2.2.2.2.2.2.1, (dCopy T D).2.2.2.2.2.2.2.2.2))), dyW cyI At (((dCopy T D).1, (dsAll (dCopy T D).2.1 (dCopy T D).2.2.2.2.2.1 (nI k)).1, upd (dCopy T D).2.2.1 k 0, (dCopy T D).2.2.2.1, (dCopy T D).2.2.2.2.1, (dCopy T D).2.2.2.2.2.1, (dCopy T D).2.2.2.2.2.2.1, (dCopy T D).2.2.2.2.2.2.2.1, (dCopy T D).2.2.2.2.2.2.2.2.1, (dCopy T D).2.2.2.2.2.2.2.2.2)), dyW cyI Ad D] = cat [[(h, .inr (5, [.ref (Ad 0), .ref (At 0), .ref (As 0), .ref (Ac 0), .ref (L 6 0)]))], shW cyI As (shOut S (dSw T D k)), dyW cyI At (dSw T D k), dyW cyI Ad D] := by rw [ew] <;> rfl
    rw [hgo] at hP hD
    have hP : va_P G vwCl (cat [[(h, .inr (5, [.ref (Ad 0), .ref (At 0), .ref (As 0), .ref (Ac 0), .ref (L 6 0)]))], shW cyI As (shOut S (dSw T D k)), dyW cyI At (dSw T D k), dyW cyI Ad D]) H := hP
    have hD : va_D A9 (cat [[(h, .inr (5, [.ref (Ad 0), .ref (At 0), .ref (As 0), .ref (Ac 0), .ref (L 6 0)]))], shW cyI As (shOut S (dSw T D k)), dyW cyI At (dSw T D k), dyW cyI Ad D]) := hD
    exact end_i hx hb hr hlocks hK hP hD hS (by rw [ew] <;> rfl) dX5_changesIfSwitched_54
abbrev rm_X5_unevenness : Room := { frames := 3, cells := 0, slots := 0, locals := 68 }
set_option maxHeartbeats 4000000 in
set_option maxRecDepth 100000 in
theorem c_X5_unevenness (l : Launch) (G : va_G) (cyI cyO : ClassId) (h : Nat) (Ad At As Ac : Nat → Nat) (L : Nat → Nat → Nat) (D : DS) (hn : D.2.2.2.2.2.1 ≤ 20) : CD l G (TY cyI cyO) yX5_unevenness wsX5_unevenness rm_X5_unevenness [.ref (h)] [[(h, .inr (5, [.ref (Ad 0), .ref (At 0), .ref (As 0), .ref (Ac 0), .ref (L 6 0)]))], dyW cyI Ad D] (uneX D) [[(h, .inr (5, [.ref (Ad 0), .ref (At 0), .ref (As 0), .ref (Ac 0), .ref (L 6 0)]))], dyW cyI Ad D] := by
  refine wk_D (cc := cX5_unevenness) (maxL := 2) (ret := (some .double)) (by decide) rfl (Nat.le_of_ble_eq_true rfl) ?_
  intro p9 e9 s9 m9 b9 t9 c9 A9 ls hx hb hr hts hown hlocks hml hK hA hD hP hl hS hnm
  have hl : lv_has ls 2 [(0, .ref (h))] := hl
  have hinX5 : ∀ w ∈ wsX50, w ∈ wsX5_unevenness := by decide +kernel
  have hf10 := hts (.fieldLink RX5 10 "DoorstepRounds" "dairy" "LDoorstepRounds$Dairy;") (by decide +kernel)
  have hd20 := rDiff_le D.2.1 D.2.2.1 D.2.2.2.2.2.1 hn
  refine lv_aload_n hx hb dX5_unevenness_0 rfl (lv_at hl 0 rfl) ?_
  refine va_get (v := .ref (Ad 0)) (C := RX5) (T := TX5) (N := 5) hx hb hts hinX5 hown hK hP 0 rfl rfl 0 (by decide) hf10 (fun _ h9 => h9) rfl dX5_unevenness_1 ?_
  refine gVi (gs := [[(h, .inr (5, [.ref (Ad 0), .ref (At 0), .ref (As 0), .ref (Ac 0), .ref (L 6 0)]))], dyW cyI Ad D]) (As := []) (rest := []) ⟨hx, hb, hml, hown, hts⟩ (c_X1_countDoorsteps l G cyI cyO Ad D) (cwV 0 hts gX5_unevenness_X1_countDoorsteps rfl rfl rfl (by decide +kernel) ⟨Nat.le_of_ble_eq_true rfl, Nat.le_of_ble_eq_true rfl⟩) hK hP hD hS hA [1] rfl rfl rfl 0 1 rfl rfl rfl hl.1 rfl (Nat.le_of_ble_eq_true rfl) dX5_unevenness_4 ⟨Nat.le_refl _, Nat.le_refl _⟩ (fun H locs hP hD hS => ?_)
  have hP : va_P G vwCl (cat [[(h, .inr (5, [.ref (Ad 0), .ref (At 0), .ref (As 0), .ref (Ac 0), .ref (L 6 0)]))], dyW cyI Ad D]) H := hP
  have hD : va_D A9 (cat [[(h, .inr (5, [.ref (Ad 0), .ref (At 0), .ref (As 0), .ref (Ac 0), .ref (L 6 0)]))], dyW cyI Ad D]) := hD
  refine lv_istore_n (lv' := [(1, .int (nI (D.2.2.2.2.2.1))), (0, .ref (h))]) hx hb dX5_unevenness_7 rfl hl (by decide) rfl (fun ls hl => ?_)
  refine lv_iload_n hx hb dX5_unevenness_8 rfl (lv_at hl 0 rfl) ?_
  refine lv_if_gt (tgt := 14) hx hb dX5_unevenness_9 (by decide) (fun c_9 => ?_) (fun c_9 => ?_)
  · have c_9 : (0) < (D.2.2.2.2.2.1) := (nI_ltI (a := 0) (b := D.2.2.2.2.2.1) (by omega) (by omega)).mp c_9
    refine lv_aload_n hx hb dX5_unevenness_14 rfl (lv_at hl 1 rfl) ?_
    refine va_get (v := .ref (Ad 0)) (C := RX5) (T := TX5) (N := 5) hx hb hts hinX5 hown hK hP 0 rfl rfl 0 (by decide) hf10 (fun _ h9 => h9) rfl dX5_unevenness_15 ?_
    refine gVi (gs := [[(h, .inr (5, [.ref (Ad 0), .ref (At 0), .ref (As 0), .ref (Ac 0), .ref (L 6 0)]))], dyW cyI Ad D]) (As := []) (rest := []) ⟨hx, hb, hml, hown, hts⟩ (c_X1_roundDifference l G cyI cyO Ad D (by omega)) (cwV 0 hts gX5_unevenness_X1_roundDifference rfl rfl rfl (by decide +kernel) ⟨Nat.le_of_ble_eq_true rfl, Nat.le_of_ble_eq_true rfl⟩) hK hP hD hS hA [1] rfl rfl rfl 0 1 rfl rfl rfl hl.1 rfl (Nat.le_of_ble_eq_true rfl) dX5_unevenness_18 ⟨Nat.le_refl _, Nat.le_refl _⟩ (fun H locs hP hD hS => ?_)
    have hP : va_P G vwCl (cat [[(h, .inr (5, [.ref (Ad 0), .ref (At 0), .ref (As 0), .ref (Ac 0), .ref (L 6 0)]))], dyW cyI Ad D]) H := hP
    have hD : va_D A9 (cat [[(h, .inr (5, [.ref (Ad 0), .ref (At 0), .ref (As 0), .ref (Ac 0), .ref (L 6 0)]))], dyW cyI Ad D]) := hD
    refine lv_i2d hx hb dX5_unevenness_21 ?_
    refine lv_iload_n hx hb dX5_unevenness_22 rfl (lv_at hl 0 rfl) ?_
    refine lv_i2d hx hb dX5_unevenness_23 ?_
    refine lv_ddiv hx hb dX5_unevenness_24 (div_ok (by omega) (by omega) (by omega)) ?_
    have hP : va_P G vwCl (cat [[(h, .inr (5, [.ref (Ad 0), .ref (At 0), .ref (As 0), .ref (Ac 0), .ref (L 6 0)]))], dyW cyI Ad D]) H := hP
    have hD : va_D A9 (cat [[(h, .inr (5, [.ref (Ad 0), .ref (At 0), .ref (As 0), .ref (Ac 0), .ref (L 6 0)]))], dyW cyI Ad D]) := hD
    exact end_d hx hb hr hlocks hK hP hD hS (by first | (rw [uneX, if_pos (by omega)]; done) | (rw [uneX, if_neg (by omega)]; done)) dX5_unevenness_25
  · have c_9 : ¬ (0) < (D.2.2.2.2.2.1) := fun h9 => c_9 ((nI_ltI (a := 0) (b := D.2.2.2.2.2.1) (by omega) (by omega)).mpr h9)
    refine lv_dconst0 hx hb dX5_unevenness_12 ?_
    have hP : va_P G vwCl (cat [[(h, .inr (5, [.ref (Ad 0), .ref (At 0), .ref (As 0), .ref (Ac 0), .ref (L 6 0)]))], dyW cyI Ad D]) H := hP
    have hD : va_D A9 (cat [[(h, .inr (5, [.ref (Ad 0), .ref (At 0), .ref (As 0), .ref (Ac 0), .ref (L 6 0)]))], dyW cyI Ad D]) := hD
    exact end_d hx hb hr hlocks hK hP hD hS (by first | (rw [uneX, if_pos (by omega)]; done) | (rw [uneX, if_neg (by omega)]; done)) dX5_unevenness_13
abbrev rm_X5_doorsteps : Room := { frames := 1, cells := 0, slots := 0, locals := 20 }
set_option maxHeartbeats 4000000 in
set_option maxRecDepth 100000 in
theorem c_X5_doorsteps (l : Launch) (G : va_G) (cyI cyO : ClassId) (h : Nat) (Ad At As Ac : Nat → Nat) (L : Nat → Nat → Nat) (D : DS) : CI l G (TY cyI cyO) yX5_doorsteps wsX5_doorsteps rm_X5_doorsteps [.ref (h)] [[(h, .inr (5, [.ref (Ad 0), .ref (At 0), .ref (As 0), .ref (Ac 0), .ref (L 6 0)]))], dyW cyI Ad D] (nI (D.2.2.2.2.2.1)) [[(h, .inr (5, [.ref (Ad 0), .ref (At 0), .ref (As 0), .ref (Ac 0), .ref (L 6 0)]))], dyW cyI Ad D] := by
  refine wk_I (cc := cX5_doorsteps) (maxL := 1) (ret := (some .int)) (by decide) rfl (Nat.le_of_ble_eq_true rfl) ?_
  intro p9 e9 s9 m9 b9 t9 c9 A9 ls hx hb hr hts hown hlocks hml hK hA hD hP hl hS hnm
  have hl : lv_has ls 1 [(0, .ref (h))] := hl
  have hinX5 : ∀ w ∈ wsX50, w ∈ wsX5_doorsteps := by decide +kernel
  have hf10 := hts (.fieldLink RX5 10 "DoorstepRounds" "dairy" "LDoorstepRounds$Dairy;") (by decide +kernel)
  refine lv_aload_n hx hb dX5_doorsteps_0 rfl (lv_at hl 0 rfl) ?_
  refine va_get (v := .ref (Ad 0)) (C := RX5) (T := TX5) (N := 5) hx hb hts hinX5 hown hK hP 0 rfl rfl 0 (by decide) hf10 (fun _ h9 => h9) rfl dX5_doorsteps_1 ?_
  refine gVi (gs := [[(h, .inr (5, [.ref (Ad 0), .ref (At 0), .ref (As 0), .ref (Ac 0), .ref (L 6 0)]))], dyW cyI Ad D]) (As := []) (rest := []) ⟨hx, hb, hml, hown, hts⟩ (c_X1_countDoorsteps l G cyI cyO Ad D) (cwV 0 hts gX5_doorsteps_X1_countDoorsteps rfl rfl rfl (by decide +kernel) ⟨Nat.le_of_ble_eq_true rfl, Nat.le_of_ble_eq_true rfl⟩) hK hP hD hS hA [1] rfl rfl rfl 0 1 rfl rfl rfl hl.1 rfl (Nat.le_of_ble_eq_true rfl) dX5_doorsteps_4 ⟨Nat.le_refl _, Nat.le_refl _⟩ (fun H locs hP hD hS => ?_)
  have hP : va_P G vwCl (cat [[(h, .inr (5, [.ref (Ad 0), .ref (At 0), .ref (As 0), .ref (Ac 0), .ref (L 6 0)]))], dyW cyI Ad D]) H := hP
  have hD : va_D A9 (cat [[(h, .inr (5, [.ref (Ad 0), .ref (At 0), .ref (As 0), .ref (Ac 0), .ref (L 6 0)]))], dyW cyI Ad D]) := hD
  have hP : va_P G vwCl (cat [[(h, .inr (5, [.ref (Ad 0), .ref (At 0), .ref (As 0), .ref (Ac 0), .ref (L 6 0)]))], dyW cyI Ad D]) H := hP
  have hD : va_D A9 (cat [[(h, .inr (5, [.ref (Ad 0), .ref (At 0), .ref (As 0), .ref (Ac 0), .ref (L 6 0)]))], dyW cyI Ad D]) := hD
  exact end_i hx hb hr hlocks hK hP hD hS (rfl) dX5_doorsteps_7
abbrev rm_X5_handover : Room := { frames := 1, cells := 0, slots := 0, locals := 20 }
set_option maxHeartbeats 4000000 in
set_option maxRecDepth 100000 in
theorem c_X5_handover (l : Launch) (G : va_G) (cyI cyO : ClassId) (h : Nat) (Ad At As Ac : Nat → Nat) (L : Nat → Nat → Nat) (D : DS) : CI l G (TY cyI cyO) yX5_handover wsX5_handover rm_X5_handover [.ref (h)] [[(h, .inr (5, [.ref (Ad 0), .ref (At 0), .ref (As 0), .ref (Ac 0), .ref (L 6 0)]))], dyW cyI Ad D] D.2.2.2.2.2.2.1 [[(h, .inr (5, [.ref (Ad 0), .ref (At 0), .ref (As 0), .ref (Ac 0), .ref (L 6 0)]))], dyW cyI Ad D] := by
  refine wk_I (cc := cX5_handover) (maxL := 1) (ret := (some .int)) (by decide) rfl (Nat.le_of_ble_eq_true rfl) ?_
  intro p9 e9 s9 m9 b9 t9 c9 A9 ls hx hb hr hts hown hlocks hml hK hA hD hP hl hS hnm
  have hl : lv_has ls 1 [(0, .ref (h))] := hl
  have hinX5 : ∀ w ∈ wsX50, w ∈ wsX5_handover := by decide +kernel
  have hf10 := hts (.fieldLink RX5 10 "DoorstepRounds" "dairy" "LDoorstepRounds$Dairy;") (by decide +kernel)
  refine lv_aload_n hx hb dX5_handover_0 rfl (lv_at hl 0 rfl) ?_
  refine va_get (v := .ref (Ad 0)) (C := RX5) (T := TX5) (N := 5) hx hb hts hinX5 hown hK hP 0 rfl rfl 0 (by decide) hf10 (fun _ h9 => h9) rfl dX5_handover_1 ?_
  refine gVi (gs := [[(h, .inr (5, [.ref (Ad 0), .ref (At 0), .ref (As 0), .ref (Ac 0), .ref (L 6 0)]))], dyW cyI Ad D]) (As := []) (rest := []) ⟨hx, hb, hml, hown, hts⟩ (c_X1_nextStep l G cyI cyO Ad D) (cwV 0 hts gX5_handover_X1_nextStep rfl rfl rfl (by decide +kernel) ⟨Nat.le_of_ble_eq_true rfl, Nat.le_of_ble_eq_true rfl⟩) hK hP hD hS hA [1] rfl rfl rfl 0 1 rfl rfl rfl hl.1 rfl (Nat.le_of_ble_eq_true rfl) dX5_handover_4 ⟨Nat.le_refl _, Nat.le_refl _⟩ (fun H locs hP hD hS => ?_)
  have hP : va_P G vwCl (cat [[(h, .inr (5, [.ref (Ad 0), .ref (At 0), .ref (As 0), .ref (Ac 0), .ref (L 6 0)]))], dyW cyI Ad D]) H := hP
  have hD : va_D A9 (cat [[(h, .inr (5, [.ref (Ad 0), .ref (At 0), .ref (As 0), .ref (Ac 0), .ref (L 6 0)]))], dyW cyI Ad D]) := hD
  have hP : va_P G vwCl (cat [[(h, .inr (5, [.ref (Ad 0), .ref (At 0), .ref (As 0), .ref (Ac 0), .ref (L 6 0)]))], dyW cyI Ad D]) H := hP
  have hD : va_D A9 (cat [[(h, .inr (5, [.ref (Ad 0), .ref (At 0), .ref (As 0), .ref (Ac 0), .ref (L 6 0)]))], dyW cyI Ad D]) := hD
  exact end_i hx hb hr hlocks hK hP hD hS (rfl) dX5_handover_7
abbrev rm_X5_changed : Room := { frames := 1, cells := 0, slots := 0, locals := 20 }
set_option maxHeartbeats 4000000 in
set_option maxRecDepth 100000 in
theorem c_X5_changed (l : Launch) (G : va_G) (cyI cyO : ClassId) (h : Nat) (Ad At As Ac : Nat → Nat) (L : Nat → Nat → Nat) (D : DS) : CI l G (TY cyI cyO) yX5_changed wsX5_changed rm_X5_changed [.ref (h)] [[(h, .inr (5, [.ref (Ad 0), .ref (At 0), .ref (As 0), .ref (Ac 0), .ref (L 6 0)]))], dyW cyI Ad D] D.2.2.2.2.2.2.2.1 [[(h, .inr (5, [.ref (Ad 0), .ref (At 0), .ref (As 0), .ref (Ac 0), .ref (L 6 0)]))], dyW cyI Ad D] := by
  refine wk_I (cc := cX5_changed) (maxL := 1) (ret := (some .int)) (by decide) rfl (Nat.le_of_ble_eq_true rfl) ?_
  intro p9 e9 s9 m9 b9 t9 c9 A9 ls hx hb hr hts hown hlocks hml hK hA hD hP hl hS hnm
  have hl : lv_has ls 1 [(0, .ref (h))] := hl
  have hinX5 : ∀ w ∈ wsX50, w ∈ wsX5_changed := by decide +kernel
  have hf10 := hts (.fieldLink RX5 10 "DoorstepRounds" "dairy" "LDoorstepRounds$Dairy;") (by decide +kernel)
  refine lv_aload_n hx hb dX5_changed_0 rfl (lv_at hl 0 rfl) ?_
  refine va_get (v := .ref (Ad 0)) (C := RX5) (T := TX5) (N := 5) hx hb hts hinX5 hown hK hP 0 rfl rfl 0 (by decide) hf10 (fun _ h9 => h9) rfl dX5_changed_1 ?_
  refine gVi (gs := [[(h, .inr (5, [.ref (Ad 0), .ref (At 0), .ref (As 0), .ref (Ac 0), .ref (L 6 0)]))], dyW cyI Ad D]) (As := []) (rest := []) ⟨hx, hb, hml, hown, hts⟩ (c_X1_countTakenOver l G cyI cyO Ad D) (cwV 0 hts gX5_changed_X1_countTakenOver rfl rfl rfl (by decide +kernel) ⟨Nat.le_of_ble_eq_true rfl, Nat.le_of_ble_eq_true rfl⟩) hK hP hD hS hA [1] rfl rfl rfl 0 1 rfl rfl rfl hl.1 rfl (Nat.le_of_ble_eq_true rfl) dX5_changed_4 ⟨Nat.le_refl _, Nat.le_refl _⟩ (fun H locs hP hD hS => ?_)
  have hP : va_P G vwCl (cat [[(h, .inr (5, [.ref (Ad 0), .ref (At 0), .ref (As 0), .ref (Ac 0), .ref (L 6 0)]))], dyW cyI Ad D]) H := hP
  have hD : va_D A9 (cat [[(h, .inr (5, [.ref (Ad 0), .ref (At 0), .ref (As 0), .ref (Ac 0), .ref (L 6 0)]))], dyW cyI Ad D]) := hD
  have hP : va_P G vwCl (cat [[(h, .inr (5, [.ref (Ad 0), .ref (At 0), .ref (As 0), .ref (Ac 0), .ref (L 6 0)]))], dyW cyI Ad D]) H := hP
  have hD : va_D A9 (cat [[(h, .inr (5, [.ref (Ad 0), .ref (At 0), .ref (As 0), .ref (Ac 0), .ref (L 6 0)]))], dyW cyI Ad D]) := hD
  exact end_i hx hb hr hlocks hK hP hD hS (rfl) dX5_changed_7
abbrev rm_X5_delivered : Room := { frames := 1, cells := 0, slots := 0, locals := 20 }
set_option maxHeartbeats 4000000 in
set_option maxRecDepth 100000 in
theorem c_X5_delivered (l : Launch) (G : va_G) (cyI cyO : ClassId) (h : Nat) (Ad At As Ac : Nat → Nat) (L : Nat → Nat → Nat) (D : DS) : CI l G (TY cyI cyO) yX5_delivered wsX5_delivered rm_X5_delivered [.ref (h)] [[(h, .inr (5, [.ref (Ad 0), .ref (At 0), .ref (As 0), .ref (Ac 0), .ref (L 6 0)]))], dyW cyI Ad D] D.2.2.2.2.2.2.2.2.1 [[(h, .inr (5, [.ref (Ad 0), .ref (At 0), .ref (As 0), .ref (Ac 0), .ref (L 6 0)]))], dyW cyI Ad D] := by
  refine wk_I (cc := cX5_delivered) (maxL := 1) (ret := (some .int)) (by decide) rfl (Nat.le_of_ble_eq_true rfl) ?_
  intro p9 e9 s9 m9 b9 t9 c9 A9 ls hx hb hr hts hown hlocks hml hK hA hD hP hl hS hnm
  have hl : lv_has ls 1 [(0, .ref (h))] := hl
  have hinX5 : ∀ w ∈ wsX50, w ∈ wsX5_delivered := by decide +kernel
  have hf10 := hts (.fieldLink RX5 10 "DoorstepRounds" "dairy" "LDoorstepRounds$Dairy;") (by decide +kernel)
  refine lv_aload_n hx hb dX5_delivered_0 rfl (lv_at hl 0 rfl) ?_
  refine va_get (v := .ref (Ad 0)) (C := RX5) (T := TX5) (N := 5) hx hb hts hinX5 hown hK hP 0 rfl rfl 0 (by decide) hf10 (fun _ h9 => h9) rfl dX5_delivered_1 ?_
  refine gVi (gs := [[(h, .inr (5, [.ref (Ad 0), .ref (At 0), .ref (As 0), .ref (Ac 0), .ref (L 6 0)]))], dyW cyI Ad D]) (As := []) (rest := []) ⟨hx, hb, hml, hown, hts⟩ (c_X1_countPintsBrought l G cyI cyO Ad D) (cwV 0 hts gX5_delivered_X1_countPintsBrought rfl rfl rfl (by decide +kernel) ⟨Nat.le_of_ble_eq_true rfl, Nat.le_of_ble_eq_true rfl⟩) hK hP hD hS hA [1] rfl rfl rfl 0 1 rfl rfl rfl hl.1 rfl (Nat.le_of_ble_eq_true rfl) dX5_delivered_4 ⟨Nat.le_refl _, Nat.le_refl _⟩ (fun H locs hP hD hS => ?_)
  have hP : va_P G vwCl (cat [[(h, .inr (5, [.ref (Ad 0), .ref (At 0), .ref (As 0), .ref (Ac 0), .ref (L 6 0)]))], dyW cyI Ad D]) H := hP
  have hD : va_D A9 (cat [[(h, .inr (5, [.ref (Ad 0), .ref (At 0), .ref (As 0), .ref (Ac 0), .ref (L 6 0)]))], dyW cyI Ad D]) := hD
  have hP : va_P G vwCl (cat [[(h, .inr (5, [.ref (Ad 0), .ref (At 0), .ref (As 0), .ref (Ac 0), .ref (L 6 0)]))], dyW cyI Ad D]) H := hP
  have hD : va_D A9 (cat [[(h, .inr (5, [.ref (Ad 0), .ref (At 0), .ref (As 0), .ref (Ac 0), .ref (L 6 0)]))], dyW cyI Ad D]) := hD
  exact end_i hx hb hr hlocks hK hP hD hS (rfl) dX5_delivered_7
abbrev rm_X5_misses : Room := { frames := 1, cells := 0, slots := 0, locals := 20 }
set_option maxHeartbeats 4000000 in
set_option maxRecDepth 100000 in
theorem c_X5_misses (l : Launch) (G : va_G) (cyI cyO : ClassId) (h : Nat) (Ad At As Ac : Nat → Nat) (L : Nat → Nat → Nat) (D : DS) : CI l G (TY cyI cyO) yX5_misses wsX5_misses rm_X5_misses [.ref (h)] [[(h, .inr (5, [.ref (Ad 0), .ref (At 0), .ref (As 0), .ref (Ac 0), .ref (L 6 0)]))], dyW cyI Ad D] D.2.2.2.2.2.2.2.2.2 [[(h, .inr (5, [.ref (Ad 0), .ref (At 0), .ref (As 0), .ref (Ac 0), .ref (L 6 0)]))], dyW cyI Ad D] := by
  refine wk_I (cc := cX5_misses) (maxL := 1) (ret := (some .int)) (by decide) rfl (Nat.le_of_ble_eq_true rfl) ?_
  intro p9 e9 s9 m9 b9 t9 c9 A9 ls hx hb hr hts hown hlocks hml hK hA hD hP hl hS hnm
  have hl : lv_has ls 1 [(0, .ref (h))] := hl
  have hinX5 : ∀ w ∈ wsX50, w ∈ wsX5_misses := by decide +kernel
  have hf10 := hts (.fieldLink RX5 10 "DoorstepRounds" "dairy" "LDoorstepRounds$Dairy;") (by decide +kernel)
  refine lv_aload_n hx hb dX5_misses_0 rfl (lv_at hl 0 rfl) ?_
  refine va_get (v := .ref (Ad 0)) (C := RX5) (T := TX5) (N := 5) hx hb hts hinX5 hown hK hP 0 rfl rfl 0 (by decide) hf10 (fun _ h9 => h9) rfl dX5_misses_1 ?_
  refine gVi (gs := [[(h, .inr (5, [.ref (Ad 0), .ref (At 0), .ref (As 0), .ref (Ac 0), .ref (L 6 0)]))], dyW cyI Ad D]) (As := []) (rest := []) ⟨hx, hb, hml, hown, hts⟩ (c_X1_countMisses l G cyI cyO Ad D) (cwV 0 hts gX5_misses_X1_countMisses rfl rfl rfl (by decide +kernel) ⟨Nat.le_of_ble_eq_true rfl, Nat.le_of_ble_eq_true rfl⟩) hK hP hD hS hA [1] rfl rfl rfl 0 1 rfl rfl rfl hl.1 rfl (Nat.le_of_ble_eq_true rfl) dX5_misses_4 ⟨Nat.le_refl _, Nat.le_refl _⟩ (fun H locs hP hD hS => ?_)
  have hP : va_P G vwCl (cat [[(h, .inr (5, [.ref (Ad 0), .ref (At 0), .ref (As 0), .ref (Ac 0), .ref (L 6 0)]))], dyW cyI Ad D]) H := hP
  have hD : va_D A9 (cat [[(h, .inr (5, [.ref (Ad 0), .ref (At 0), .ref (As 0), .ref (Ac 0), .ref (L 6 0)]))], dyW cyI Ad D]) := hD
  have hP : va_P G vwCl (cat [[(h, .inr (5, [.ref (Ad 0), .ref (At 0), .ref (As 0), .ref (Ac 0), .ref (L 6 0)]))], dyW cyI Ad D]) H := hP
  have hD : va_D A9 (cat [[(h, .inr (5, [.ref (Ad 0), .ref (At 0), .ref (As 0), .ref (Ac 0), .ref (L 6 0)]))], dyW cyI Ad D]) := hD
  exact end_i hx hb hr hlocks hK hP hD hS (rfl) dX5_misses_7
abbrev rm_X5_changesToCome : Room := { frames := 4, cells := 0, slots := 0, locals := 92 }
set_option maxHeartbeats 4000000 in
set_option maxRecDepth 100000 in
theorem c_X5_changesToCome (l : Launch) (G : va_G) (cyI cyO : ClassId) (h : Nat) (Ad At As Ac : Nat → Nat) (L : Nat → Nat → Nat) (S : SS) (D : DS) (hn : D.2.2.2.2.2.1 ≤ 20) : CI l G (TY cyI cyO) yX5_changesToCome wsX5_changesToCome rm_X5_changesToCome [.ref (h)] [[(h, .inr (5, [.ref (Ad 0), .ref (At 0), .ref (As 0), .ref (Ac 0), .ref (L 6 0)]))], shW cyI As S, dyW cyI Ad D] (shRes S D) [[(h, .inr (5, [.ref (Ad 0), .ref (At 0), .ref (As 0), .ref (Ac 0), .ref (L 6 0)]))], shW cyI As (shOut S D), dyW cyI Ad D] := by
  refine wk_I (cc := cX5_changesToCome) (maxL := 1) (ret := (some .int)) (by decide) rfl (Nat.le_of_ble_eq_true rfl) ?_
  intro p9 e9 s9 m9 b9 t9 c9 A9 ls hx hb hr hts hown hlocks hml hK hA hD hP hl hS hnm
  have hl : lv_has ls 1 [(0, .ref (h))] := hl
  have hinX5 : ∀ w ∈ wsX50, w ∈ wsX5_changesToCome := by decide +kernel
  have hf10 := hts (.fieldLink RX5 10 "DoorstepRounds" "dairy" "LDoorstepRounds$Dairy;") (by decide +kernel)
  have hf22 := hts (.fieldLink RX5 22 "DoorstepRounds" "sharing" "LDoorstepRounds$Sharing;") (by decide +kernel)
  refine lv_aload_n hx hb dX5_changesToCome_0 rfl (lv_at hl 0 rfl) ?_
  refine va_get (v := .ref (As 0)) (C := RX5) (T := TX5) (N := 5) hx hb hts hinX5 hown hK hP 0 rfl rfl 2 (by decide) hf22 (fun _ h9 => h9) rfl dX5_changesToCome_1 ?_
  refine lv_aload_n hx hb dX5_changesToCome_4 rfl (lv_at hl 0 rfl) ?_
  refine va_get (v := .ref (Ad 0)) (C := RX5) (T := TX5) (N := 5) hx hb hts hinX5 hown hK hP 0 rfl rfl 0 (by decide) hf10 (fun _ h9 => h9) rfl dX5_changesToCome_5 ?_
  refine gVi (gs := [[(h, .inr (5, [.ref (Ad 0), .ref (At 0), .ref (As 0), .ref (Ac 0), .ref (L 6 0)]))], shW cyI As S, dyW cyI Ad D]) (As := [.ref (Ad 0)]) (rest := []) ⟨hx, hb, hml, hown, hts⟩ (c_X4_shareOut l G cyI cyO As Ad S D (by omega)) (cwV 1 hts gX5_changesToCome_X4_shareOut rfl rfl rfl (by decide +kernel) ⟨Nat.le_of_ble_eq_true rfl, Nat.le_of_ble_eq_true rfl⟩) hK hP hD hS hA [1, 2] rfl rfl rfl 0 4 rfl rfl rfl hl.1 rfl (Nat.le_of_ble_eq_true rfl) dX5_changesToCome_8 ⟨Nat.le_refl _, Nat.le_refl _⟩ (fun H locs hP hD hS => ?_)
  have hP : va_P G vwCl (cat [[(h, .inr (5, [.ref (Ad 0), .ref (At 0), .ref (As 0), .ref (Ac 0), .ref (L 6 0)]))], shW cyI As (shOut S D), dyW cyI Ad D]) H := hP
  have hD : va_D A9 (cat [[(h, .inr (5, [.ref (Ad 0), .ref (At 0), .ref (As 0), .ref (Ac 0), .ref (L 6 0)]))], shW cyI As (shOut S D), dyW cyI Ad D]) := hD
  have hP : va_P G vwCl (cat [[(h, .inr (5, [.ref (Ad 0), .ref (At 0), .ref (As 0), .ref (Ac 0), .ref (L 6 0)]))], shW cyI As (shOut S D), dyW cyI Ad D]) H := hP
  have hD : va_D A9 (cat [[(h, .inr (5, [.ref (Ad 0), .ref (At 0), .ref (As 0), .ref (Ac 0), .ref (L 6 0)]))], shW cyI As (shOut S D), dyW cyI Ad D]) := hD
  exact end_i hx hb hr hlocks hK hP hD hS (rfl) dX5_changesToCome_11
abbrev rm_X5_deliver : Room := { frames := 4, cells := 0, slots := 0, locals := 86 }
set_option maxHeartbeats 4000000 in
set_option maxRecDepth 100000 in
theorem c_X5_deliver (l : Launch) (G : va_G) (cyI cyO : ClassId) (h : Nat) (Ad At As Ac : Nat → Nat) (L : Nat → Nat → Nat) (D : DS) (V : HS) (hn : D.2.2.2.2.2.1 ≤ 20) (hV : V.1 ≤ 6) : CI l G (TY cyI cyO) yX5_deliver wsX5_deliver rm_X5_deliver [.ref (h)] [[(h, .inr (5, [.ref (Ad 0), .ref (At 0), .ref (As 0), .ref (Ac 0), .ref (L 6 0)]))], dyW cyI Ad D, hiW cyI cyO L V] ((bmAll D.1 D.2.1 D.2.2.2.2.2.2.2.2.2 D.2.2.2.2.2.1).1) [[(h, .inr (5, [.ref (Ad 0), .ref (At 0), .ref (As 0), .ref (Ac 0), .ref (L 6 0)]))], dyW cyI Ad (dBring D), hiW cyI cyO (svM L V) (svS V D)] := by
  refine wk_I (cc := cX5_deliver) (maxL := 1) (ret := (some .int)) (by decide) rfl (Nat.le_of_ble_eq_true rfl) ?_
  intro p9 e9 s9 m9 b9 t9 c9 A9 ls hx hb hr hts hown hlocks hml hK hA hD hP hl hS hnm
  have hl : lv_has ls 1 [(0, .ref (h))] := hl
  have hinX5 : ∀ w ∈ wsX50, w ∈ wsX5_deliver := by decide +kernel
  have hf10 := hts (.fieldLink RX5 10 "DoorstepRounds" "dairy" "LDoorstepRounds$Dairy;") (by decide +kernel)
  have hf36 := hts (.fieldLink RX5 36 "DoorstepRounds" "history" "LDoorstepRounds$History;") (by decide +kernel)
  refine lv_aload_n hx hb dX5_deliver_0 rfl (lv_at hl 0 rfl) ?_
  refine va_get (v := .ref (L 6 0)) (C := RX5) (T := TX5) (N := 5) hx hb hts hinX5 hown hK hP 0 rfl rfl 4 (by decide) hf36 (fun _ h9 => h9) rfl dX5_deliver_1 ?_
  refine lv_aload_n hx hb dX5_deliver_4 rfl (lv_at hl 0 rfl) ?_
  refine va_get (v := .ref (Ad 0)) (C := RX5) (T := TX5) (N := 5) hx hb hts hinX5 hown hK hP 0 rfl rfl 0 (by decide) hf10 (fun _ h9 => h9) rfl dX5_deliver_5 ?_
  refine gVv (gs := [[(h, .inr (5, [.ref (Ad 0), .ref (At 0), .ref (As 0), .ref (Ac 0), .ref (L 6 0)]))], dyW cyI Ad D, hiW cyI cyO L V]) (As := [.ref (Ad 0)]) (rest := []) ⟨hx, hb, hml, hown, hts⟩ (c_X2_saveS l G cyI cyO L V Ad D (by omega)) (cwV 1 hts gX5_deliver_X2_save rfl rfl rfl (by decide +kernel) ⟨Nat.le_of_ble_eq_true rfl, Nat.le_of_ble_eq_true rfl⟩) hK hP hD hS hA [2, 1] rfl rfl rfl 0 2 rfl rfl rfl hl.1 rfl (Nat.le_of_ble_eq_true rfl) dX5_deliver_8 ⟨Nat.le_refl _, Nat.le_refl _⟩ (fun H locs hP hD hS => ?_)
  have hP : va_P G vwCl (cat [[(h, .inr (5, [.ref (Ad 0), .ref (At 0), .ref (As 0), .ref (Ac 0), .ref (L 6 0)]))], dyW cyI Ad D, hiW cyI cyO (svM L V) (svS V D)]) H := hP
  have hD : va_D A9 (cat [[(h, .inr (5, [.ref (Ad 0), .ref (At 0), .ref (As 0), .ref (Ac 0), .ref (L 6 0)]))], dyW cyI Ad D, hiW cyI cyO (svM L V) (svS V D)]) := hD
  refine lv_aload_n hx hb dX5_deliver_11 rfl (lv_at hl 0 rfl) ?_
  refine va_get (v := .ref (Ad 0)) (C := RX5) (T := TX5) (N := 5) hx hb hts hinX5 hown hK hP 0 rfl rfl 0 (by decide) hf10 (fun _ h9 => h9) rfl dX5_deliver_12 ?_
  refine gVi (gs := [[(h, .inr (5, [.ref (Ad 0), .ref (At 0), .ref (As 0), .ref (Ac 0), .ref (L 6 0)]))], dyW cyI Ad D, hiW cyI cyO (svM L V) (svS V D)]) (As := []) (rest := []) ⟨hx, hb, hml, hown, hts⟩ (c_X1_bringMilk l G cyI cyO Ad D (by omega)) (cwV 0 hts gX5_deliver_X1_bringMilk rfl rfl rfl (by decide +kernel) ⟨Nat.le_of_ble_eq_true rfl, Nat.le_of_ble_eq_true rfl⟩) hK hP hD hS hA [1] rfl rfl rfl 0 1 rfl rfl rfl hl.1 rfl (Nat.le_of_ble_eq_true rfl) dX5_deliver_15 ⟨Nat.le_refl _, Nat.le_refl _⟩ (fun H locs hP hD hS => ?_)
  have hP : va_P G vwCl (cat [[(h, .inr (5, [.ref (Ad 0), .ref (At 0), .ref (As 0), .ref (Ac 0), .ref (L 6 0)]))], dyW cyI Ad ((D.1, D.2.1, D.2.2.1, D.2.2.2.1, D.2.2.2.2.1, D.2.2.2.2.2.1, D.2.2.2.2.2.2.1, D.2.2.2.2.2.2.2.1, D.2.2.2.2.2.2.2.2.1 + (bmAll D.1 D.2.1 D.2.2.2.2.2.2.2.2.2 D.2.2.2.2.2.1).1, (bmAll D.1 D.2.1 D.2.2.2.2.2.2.2.2.2 D.2.2.2.2.2.1).2)), hiW cyI cyO (svM L V) (svS V D)]) H := hP
  have hD : va_D A9 (cat [[(h, .inr (5, [.ref (Ad 0), .ref (At 0), .ref (As 0), .ref (Ac 0), .ref (L 6 0)]))], dyW cyI Ad ((D.1, D.2.1, D.2.2.1, D.2.2.2.1, D.2.2.2.2.1, D.2.2.2.2.2.1, D.2.2.2.2.2.2.1, D.2.2.2.2.2.2.2.1, D.2.2.2.2.2.2.2.2.1 + (bmAll D.1 D.2.1 D.2.2.2.2.2.2.2.2.2 D.2.2.2.2.2.1).1, (bmAll D.1 D.2.1 D.2.2.2.2.2.2.2.2.2 D.2.2.2.2.2.1).2)), hiW cyI cyO (svM L V) (svS V D)]) := hD
  have hP : va_P G vwCl (cat [[(h, .inr (5, [.ref (Ad 0), .ref (At 0), .ref (As 0), .ref (Ac 0), .ref (L 6 0)]))], dyW cyI Ad (dBring D), hiW cyI cyO (svM L V) (svS V D)]) H := hP
  have hD : va_D A9 (cat [[(h, .inr (5, [.ref (Ad 0), .ref (At 0), .ref (As 0), .ref (Ac 0), .ref (L 6 0)]))], dyW cyI Ad (dBring D), hiW cyI cyO (svM L V) (svS V D)]) := hD
  exact end_i hx hb hr hlocks hK hP hD hS (rfl) dX5_deliver_18

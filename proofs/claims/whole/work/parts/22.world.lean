/-! ===== DoorstepRounds: what cannot throw ===== -/
def dBg (D : DS) (S : SS) : DS := (D.1, D.2.1, D.2.2.1, rowCopy D.2.2.2.1 S.1 D.2.2.2.2.2.1, rowCopy D.2.2.2.2.1 D.2.1 20, D.2.2.2.2.2.1, 1, D.2.2.2.2.2.2.2)
def mpD (S : SS) (D : DS) : DS := if shRes S D ≤ 0 then D else dBg D (shOut S D)
def rsn (S : SS) (D : DS) (k : Nat) : Int32 := if cW D.2.2.1 = 0 then 1 else if D.2.1 k = S.1 k then 0 else if D.2.1 k = -1 then 2 else 3
def dDis (D : DS) (k : Nat) : DS := (D.1, (dsAll D.2.1 D.2.2.2.2.2.1 (nI k)).1, upd D.2.2.1 k 0, D.2.2.2)
def dWel (D : DS) (k : Nat) : DS := (D.1, D.2.1, upd D.2.2.1 k 1, D.2.2.2)
def dSw (T D : DS) (k : Nat) : DS := if (dCopy T D).2.2.1 k = 1 then dDis (dCopy T D) k else dWel (dCopy T D) k
def dAdd (D : DS) (v : Int32) : DS := (upd D.1 D.2.2.2.2.2.1 v, upd D.2.1 D.2.2.2.2.2.1 (-1), D.2.2.1, D.2.2.2.1, D.2.2.2.2.1, D.2.2.2.2.2.1 + 1, D.2.2.2.2.2.2)
def dRem (D : DS) (k : Nat) : DS := (rowGap D.1 20 k, rowGap D.2.1 20 k, D.2.2.1, D.2.2.2.1, D.2.2.2.2.1, D.2.2.2.2.2.1 - 1, D.2.2.2.2.2.2)
def dBack (D : DS) : DS := (D.1, (mvAll D.2.2.2.2.1 D.2.1 D.2.2.2.2.2.1).1, D.2.2.1, D.2.2.2.1, D.2.2.2.2.1, D.2.2.2.2.2.1, 0, D.2.2.2.2.2.2.2)
def dBring (D : DS) : DS := (D.1, D.2.1, D.2.2.1, D.2.2.2.1, D.2.2.2.2.1, D.2.2.2.2.2.1, D.2.2.2.2.2.2.1, D.2.2.2.2.2.2.2.1, D.2.2.2.2.2.2.2.2.1 + (bmAll D.1 D.2.1 D.2.2.2.2.2.2.2.2.2 D.2.2.2.2.2.1).1, (bmAll D.1 D.2.1 D.2.2.2.2.2.2.2.2.2 D.2.2.2.2.2.1).2)
def mixI (x : Int64) (v : Int32) : Int64 := 31 * x + v.toInt64
def mmStep (D : DS) (m : Nat) (q : Int64 × SS × DS) : Int64 × SS × DS :=
  (mixI (mixI (mixI (mixI q.1 (bI (decide (D.2.2.1 m = 1)))) (nI (rSz D.2.1 D.2.2.2.2.2.1 (nI m)))) (rLd D.1 D.2.1 D.2.2.2.2.2.1 (nI m))) (shRes q.2.1 (dSw q.2.2 D m)), shOut q.2.1 (dSw q.2.2 D m), dSw q.2.2 D m)
def mdStep (S : SS) (D : DS) (d : Nat) (x : Int64) : Int64 := mixI (mixI (mixI (mixI (mixI x (D.1 d)) (D.2.1 d)) (dPlan D d)) (S.1 d)) (rsn S D d)
def dgA (S : SS) (D : DS) : Int64 := mixI (mixI (mixI (mixI (mixI (mixI 4756 (nI D.2.2.2.2.2.1)) D.2.2.2.2.2.2.1) D.2.2.2.2.2.2.2.1) D.2.2.2.2.2.2.2.2.1) D.2.2.2.2.2.2.2.2.2) (shRes S D)
def mmAll (D : DS) (x : Int64) (S : SS) (T : DS) : Int64 × SS × DS := itr 6 (mmStep D) (x, S, T)
def mdAll (S : SS) (D : DS) (x : Int64) : Int64 := itr D.2.2.2.2.2.1 (mdStep S D) x
def uneX (D : DS) : UInt64 := if D.2.2.2.2.2.1 = 0 then FP.dconst0 else FP.ddiv (FP.i2d (nI (rDiff D.2.1 D.2.2.1 D.2.2.2.2.2.1))) (FP.i2d (nI D.2.2.2.2.2.1))
theorem df_le {O W : Nat → Int32} {n : Nat} (hn : n ≤ 20) (i : Nat) : (itr i (dfStep O W n) (0, 20)).1 ≤ 20 := by
  induction i with
  | zero => show 0 ≤ 20; omega
  | succ i ih =>
    show (dfStep O W n i (itr i (dfStep O W n) (0, 20))).1 ≤ 20
    generalize itr i (dfStep O W n) (0, 20) = q at ih ⊢
    have := rSz_le O n (nI i)
    unfold dfStep
    split
    · show (if _ then _ else _) ≤ 20
      split <;> omega
    · exact ih
theorem rDiff_le (O W : Nat → Int32) (n : Nat) (hn : n ≤ 20) : rDiff O W n ≤ 20 := by
  have := df_le (O := O) (W := W) hn 6
  unfold rDiff
  split
  · omega
  · have h9 : (dfAll O W n).1 ≤ 20 := this
    omega
def pMay (D : DS) (u : Int32) (v : Nat) : Bool := if u = 43 then !dHO D && decide (D.2.2.2.2.2.1 < 20) else if u = 45 then dHas D.2.2.2.2.2.1 (nI v) && !dHO D else if u = 99 then !dHO D && !decide (D.2.2.1 v = 1) else if u = 104 then dHO D else if u = 108 then !dHO D && decide (D.2.2.1 v = 1) else if u = 112 then !dHO D && decide (0 < cW D.2.2.1) else if u = 120 then dHO D else true
def pDo (S : SS) (D : DS) (u : Int32) (v : Nat) : SS × DS := if u = 43 then (S, dAdd D (nI v)) else if u = 45 then (S, dRem D v) else if u = 99 then (S, dWel D v) else if u = 104 then (S, dNext D) else if u = 108 then (S, dDis D v) else if u = 112 then (shOut S D, mpD S D) else if u = 120 then (S, dBack D) else (S, dBring D)
def pGo (S : SS) (D : DS) (u : Int32) (v : Nat) : SS × DS := if pMay D u v = true then pDo S D u v else (S, D)
theorem mayAdd_lt {b : Bool} {n : Nat} (h : (b && decide (n < 20)) = true) : n < 20 := by
  cases b
  · cases h
  · exact of_decide_eq_true h
theorem mayRem_lt {b : Bool} {n v : Nat} (hv : v < 1000) (hn : n ≤ 20) (h : (dHas n (nI v) && b) = true) : v < n := by
  cases h9 : dHas n (nI v) with
  | false => rw [h9] at h; cases h
  | true =>
    unfold dHas at h9
    by_cases c : v < n
    · exact c
    · have h8 : nI n ≤ nI v := (nI_leI (by omega) (by omega)).mpr (by omega)
      simp [h8] at h9
theorem pMay_43 (D : DS) (v : Nat) {u : Int32} (h : u = 43) : pMay D u v = (!dHO D && decide (D.2.2.2.2.2.1 < 20)) := by subst h; rfl
theorem pMay_45 (D : DS) (v : Nat) {u : Int32} (h : u = 45) : pMay D u v = (dHas D.2.2.2.2.2.1 (nI v) && !dHO D) := by subst h; rfl
theorem pMay_99 (D : DS) (v : Nat) {u : Int32} (h : u = 99) : pMay D u v = (!dHO D && !decide (D.2.2.1 v = 1)) := by subst h; rfl
theorem pMay_108 (D : DS) (v : Nat) {u : Int32} (h : u = 108) : pMay D u v = (!dHO D && decide (D.2.2.1 v = 1)) := by subst h; rfl
theorem pDo_43 (S : SS) (D : DS) (v : Nat) {u : Int32} (h : u = 43) : pDo S D u v = (S, dAdd D (nI v)) := by subst h; rfl
theorem pDo_45 (S : SS) (D : DS) (v : Nat) {u : Int32} (h : u = 45) : pDo S D u v = (S, dRem D v) := by subst h; rfl
theorem pDo_99 (S : SS) (D : DS) (v : Nat) {u : Int32} (h : u = 99) : pDo S D u v = (S, dWel D v) := by subst h; rfl
theorem pDo_104 (S : SS) (D : DS) (v : Nat) {u : Int32} (h : u = 104) : pDo S D u v = (S, dNext D) := by subst h; rfl
theorem pDo_108 (S : SS) (D : DS) (v : Nat) {u : Int32} (h : u = 108) : pDo S D u v = (S, dDis D v) := by subst h; rfl
theorem pDo_112 (S : SS) (D : DS) (v : Nat) {u : Int32} (h : u = 112) : pDo S D u v = (shOut S D, mpD S D) := by subst h; rfl
theorem pDo_120 (S : SS) (D : DS) (v : Nat) {u : Int32} (h : u = 120) : pDo S D u v = (S, dBack D) := by subst h; rfl
theorem pDo_0 (S : SS) (D : DS) (v : Nat) {u : Int32} (h43 : ¬ u = 43) (h45 : ¬ u = 45) (h99 : ¬ u = 99) (h104 : ¬ u = 104) (h108 : ¬ u = 108) (h112 : ¬ u = 112) (h120 : ¬ u = 120) : pDo S D u v = (S, dBring D) := by unfold pDo; rw [if_neg h43, if_neg h45, if_neg h99, if_neg h104, if_neg h108, if_neg h112, if_neg h120]

abbrev rm_X5_makePlan : Room := { frames := 4, cells := 0, slots := 0, locals := 92 }
set_option maxHeartbeats 4000000 in
set_option maxRecDepth 100000 in
theorem c_X5_makePlan (l : Launch) (G : va_G) (cyI cyO : ClassId) (h : Nat) (Ad At As Ac : Nat → Nat) (L : Nat → Nat → Nat) (S : SS) (D : DS) (hn : D.2.2.2.2.2.1 ≤ 20) : CI l G (TY cyI cyO) yX5_makePlan wsX5_makePlan rm_X5_makePlan [.ref (h)] [[(h, .inr (5, [.ref (Ad 0), .ref (At 0), .ref (As 0), .ref (Ac 0), .ref (L 6 0)]))], shW cyI As S, dyW cyI Ad D] (shRes S D) [[(h, .inr (5, [.ref (Ad 0), .ref (At 0), .ref (As 0), .ref (Ac 0), .ref (L 6 0)]))], shW cyI As (shOut S D), dyW cyI Ad (mpD S D)] := by
  refine wk_I (cc := cX5_makePlan) (maxL := 2) (ret := (some .int)) (by decide) rfl (Nat.le_of_ble_eq_true rfl) ?_
  intro p9 e9 s9 m9 b9 t9 c9 A9 ls hx hb hr hts hown hlocks hml hK hA hD hP hl hS hnm
  have hl : lv_has ls 2 [(0, .ref (h))] := hl
  have hinX5 : ∀ w ∈ wsX50, w ∈ wsX5_makePlan := by decide +kernel
  have hf10 := hts (.fieldLink RX5 10 "DoorstepRounds" "dairy" "LDoorstepRounds$Dairy;") (by decide +kernel)
  have hf22 := hts (.fieldLink RX5 22 "DoorstepRounds" "sharing" "LDoorstepRounds$Sharing;") (by decide +kernel)
  refine lv_aload_n hx hb dX5_makePlan_0 rfl (lv_at hl 0 rfl) ?_
  refine va_get (v := .ref (As 0)) (C := RX5) (T := TX5) (N := 5) hx hb hts hinX5 hown hK hP 0 rfl rfl 2 (by decide) hf22 (fun _ h9 => h9) rfl dX5_makePlan_1 ?_
  refine lv_aload_n hx hb dX5_makePlan_4 rfl (lv_at hl 0 rfl) ?_
  refine va_get (v := .ref (Ad 0)) (C := RX5) (T := TX5) (N := 5) hx hb hts hinX5 hown hK hP 0 rfl rfl 0 (by decide) hf10 (fun _ h9 => h9) rfl dX5_makePlan_5 ?_
  refine gVi (gs := [[(h, .inr (5, [.ref (Ad 0), .ref (At 0), .ref (As 0), .ref (Ac 0), .ref (L 6 0)]))], shW cyI As S, dyW cyI Ad D]) (As := [.ref (Ad 0)]) (rest := []) ⟨hx, hb, hml, hown, hts⟩ (c_X4_shareOut l G cyI cyO As Ad S D (by omega)) (cwV 1 hts gX5_makePlan_X4_shareOut rfl rfl rfl (by decide +kernel) ⟨Nat.le_of_ble_eq_true rfl, Nat.le_of_ble_eq_true rfl⟩) hK hP hD hS hA [1, 2] rfl rfl rfl 0 4 rfl rfl rfl hl.1 rfl (Nat.le_of_ble_eq_true rfl) dX5_makePlan_8 ⟨Nat.le_refl _, Nat.le_refl _⟩ (fun H locs hP hD hS => ?_)
  have hP : va_P G vwCl (cat [[(h, .inr (5, [.ref (Ad 0), .ref (At 0), .ref (As 0), .ref (Ac 0), .ref (L 6 0)]))], shW cyI As (shOut S D), dyW cyI Ad D]) H := hP
  have hD : va_D A9 (cat [[(h, .inr (5, [.ref (Ad 0), .ref (At 0), .ref (As 0), .ref (Ac 0), .ref (L 6 0)]))], shW cyI As (shOut S D), dyW cyI Ad D]) := hD
  refine lv_istore_n (lv' := [(1, .int (shRes S D)), (0, .ref (h))]) hx hb dX5_makePlan_11 rfl hl (by decide) rfl (fun ls hl => ?_)
  refine lv_iload_n hx hb dX5_makePlan_12 rfl (lv_at hl 0 rfl) ?_
  refine lv_if_le (tgt := 27) hx hb dX5_makePlan_13 (by decide) (fun c_13 => ?_) (fun c_13 => ?_)
  · have ew : mpD S D = D := if_pos c_13
    refine lv_iload_n hx hb dX5_makePlan_27 rfl (lv_at hl 0 rfl) ?_
    have hgo : cat [[(h, .inr (5, [.ref (Ad 0), .ref (At 0), .ref (As 0), .ref (Ac 0), .ref (L 6 0)]))], shW cyI As (shOut S D), dyW cyI Ad D] = cat [[(h, .inr (5, [.ref (Ad 0), .ref (At 0), .ref (As 0), .ref (Ac 0), .ref (L 6 0)]))], shW cyI As (shOut S D), dyW cyI Ad (mpD S D)] := by rw [ew] <;> rfl
    rw [hgo] at hP hD
    have hP : va_P G vwCl (cat [[(h, .inr (5, [.ref (Ad 0), .ref (At 0), .ref (As 0), .ref (Ac 0), .ref (L 6 0)]))], shW cyI As (shOut S D), dyW cyI Ad (mpD S D)]) H := hP
    have hD : va_D A9 (cat [[(h, .inr (5, [.ref (Ad 0), .ref (At 0), .ref (As 0), .ref (Ac 0), .ref (L 6 0)]))], shW cyI As (shOut S D), dyW cyI Ad (mpD S D)]) := hD
    exact end_i hx hb hr hlocks hK hP hD hS (rfl) dX5_makePlan_28
  · have ew : mpD S D = dBg D (shOut S D) := if_neg c_13
    refine lv_aload_n hx hb dX5_makePlan_16 rfl (lv_at hl 1 rfl) ?_
    refine va_get (v := .ref (Ad 0)) (C := RX5) (T := TX5) (N := 5) hx hb hts hinX5 hown hK hP 0 rfl rfl 0 (by decide) hf10 (fun _ h9 => h9) rfl dX5_makePlan_17 ?_
    refine lv_aload_n hx hb dX5_makePlan_20 rfl (lv_at hl 1 rfl) ?_
    refine va_get (v := .ref (As 0)) (C := RX5) (T := TX5) (N := 5) hx hb hts hinX5 hown hK hP 0 rfl rfl 2 (by decide) hf22 (fun _ h9 => h9) rfl dX5_makePlan_21 ?_
    refine gVv (gs := [[(h, .inr (5, [.ref (Ad 0), .ref (At 0), .ref (As 0), .ref (Ac 0), .ref (L 6 0)]))], shW cyI As (shOut S D), dyW cyI Ad D]) (As := [.ref (As 0)]) (rest := []) ⟨hx, hb, hml, hown, hts⟩ (c_X1_beginHandover l G cyI cyO Ad As D (shOut S D) (by omega)) (cwV 1 hts gX5_makePlan_X1_beginHandover rfl rfl rfl (by decide +kernel) ⟨Nat.le_of_ble_eq_true rfl, Nat.le_of_ble_eq_true rfl⟩) hK hP hD hS hA [2, 1] rfl rfl rfl 0 1 rfl rfl rfl hl.1 rfl (Nat.le_of_ble_eq_true rfl) dX5_makePlan_24 ⟨Nat.le_refl _, Nat.le_refl _⟩ (fun H locs hP hD hS => ?_)
    have hP : va_P G vwCl (cat [[(h, .inr (5, [.ref (Ad 0), .ref (At 0), .ref (As 0), .ref (Ac 0), .ref (L 6 0)]))], shW cyI As (shOut S D), dyW cyI Ad ((D.1, D.2.1, D.2.2.1, rowCopy D.2.2.2.1 (shOut S D).1 D.2.2.2.2.2.1, rowCopy D.2.2.2.2.1 D.2.1 20, D.2.2.2.2.2.1, 1, D.2.2.2.2.2.2.2.1, D.2.2.2.2.2.2.2.2.1, D.2.2.2.2.2.2.2.2.2))]) H := hP
    have hD : va_D A9 (cat [[(h, .inr (5, [.ref (Ad 0), .ref (At 0), .ref (As 0), .ref (Ac 0), .ref (L 6 0)]))], shW cyI As (shOut S D), dyW cyI Ad ((D.1, D.2.1, D.2.2.1, rowCopy D.2.2.2.1 (shOut S D).1 D.2.2.2.2.2.1, rowCopy D.2.2.2.2.1 D.2.1 20, D.2.2.2.2.2.1, 1, D.2.2.2.2.2.2.2.1, D.2.2.2.2.2.2.2.2.1, D.2.2.2.2.2.2.2.2.2))]) := hD
    refine lv_iload_n hx hb dX5_makePlan_27 rfl (lv_at hl 0 rfl) ?_
    have hgo : cat [[(h, .inr (5, [.ref (Ad 0), .ref (At 0), .ref (As 0), .ref (Ac 0), .ref (L 6 0)]))], shW cyI As (shOut S D), dyW cyI Ad ((D.1, D.2.1, D.2.2.1, rowCopy D.2.2.2.1 (shOut S D).1 D.2.2.2.2.2.1, rowCopy D.2.2.2.2.1 D.2.1 20, D.2.2.2.2.2.1, 1, D.2.2.2.2.2.2.2.1, D.2.2.2.2.2.2.2.2.1, D.2.2.2.2.2.2.2.2.2))] = cat [[(h, .inr (5, [.ref (Ad 0), .ref (At 0), .ref (As 0), .ref (Ac 0), .ref (L 6 0)]))], shW cyI As (shOut S D), dyW cyI Ad (mpD S D)] := by rw [ew] <;> rfl
    rw [hgo] at hP hD
    have hP : va_P G vwCl (cat [[(h, .inr (5, [.ref (Ad 0), .ref (At 0), .ref (As 0), .ref (Ac 0), .ref (L 6 0)]))], shW cyI As (shOut S D), dyW cyI Ad (mpD S D)]) H := hP
    have hD : va_D A9 (cat [[(h, .inr (5, [.ref (Ad 0), .ref (At 0), .ref (As 0), .ref (Ac 0), .ref (L 6 0)]))], shW cyI As (shOut S D), dyW cyI Ad (mpD S D)]) := hD
    exact end_i hx hb hr hlocks hK hP hD hS (rfl) dX5_makePlan_28
abbrev rm_X5_reasonInPlan : Room := { frames := 3, cells := 0, slots := 0, locals := 64 }
set_option maxHeartbeats 4000000 in
set_option maxRecDepth 100000 in
theorem c_X5_reasonInPlan (l : Launch) (G : va_G) (cyI cyO : ClassId) (h : Nat) (Ad At As Ac : Nat → Nat) (L : Nat → Nat → Nat) (S : SS) (D : DS) (k : Nat) (hk : k < 20) : CI l G (TY cyI cyO) yX5_reasonInPlan wsX5_reasonInPlan rm_X5_reasonInPlan [.ref (h), .int (nI (k))] [[(h, .inr (5, [.ref (Ad 0), .ref (At 0), .ref (As 0), .ref (Ac 0), .ref (L 6 0)]))], shW cyI As S, dyW cyI Ad D] (rsn S D k) [[(h, .inr (5, [.ref (Ad 0), .ref (At 0), .ref (As 0), .ref (Ac 0), .ref (L 6 0)]))], shW cyI As S, dyW cyI Ad D] := by
  refine wk_I (cc := cX5_reasonInPlan) (maxL := 3) (ret := (some .int)) (by decide) rfl (Nat.le_of_ble_eq_true rfl) ?_
  intro p9 e9 s9 m9 b9 t9 c9 A9 ls hx hb hr hts hown hlocks hml hK hA hD hP hl hS hnm
  have hl : lv_has ls 3 [(0, .ref (h)), (1, .int (nI (k)))] := hl
  have hinX5 : ∀ w ∈ wsX50, w ∈ wsX5_reasonInPlan := by decide +kernel
  have hf10 := hts (.fieldLink RX5 10 "DoorstepRounds" "dairy" "LDoorstepRounds$Dairy;") (by decide +kernel)
  have hf22 := hts (.fieldLink RX5 22 "DoorstepRounds" "sharing" "LDoorstepRounds$Sharing;") (by decide +kernel)
  have hw6 := cW_le D.2.2.1
  refine lv_aload_n hx hb dX5_reasonInPlan_0 rfl (lv_at hl 0 rfl) ?_
  refine va_get (v := .ref (Ad 0)) (C := RX5) (T := TX5) (N := 5) hx hb hts hinX5 hown hK hP 0 rfl rfl 0 (by decide) hf10 (fun _ h9 => h9) rfl dX5_reasonInPlan_1 ?_
  refine gVi (gs := [[(h, .inr (5, [.ref (Ad 0), .ref (At 0), .ref (As 0), .ref (Ac 0), .ref (L 6 0)]))], shW cyI As S, dyW cyI Ad D]) (As := []) (rest := []) ⟨hx, hb, hml, hown, hts⟩ (c_X1_countAtWork l G cyI cyO Ad D) (cwV 0 hts gX5_reasonInPlan_X1_countAtWork rfl rfl rfl (by decide +kernel) ⟨Nat.le_of_ble_eq_true rfl, Nat.le_of_ble_eq_true rfl⟩) hK hP hD hS hA [2] rfl rfl rfl 0 1 rfl rfl rfl hl.1 rfl (Nat.le_of_ble_eq_true rfl) dX5_reasonInPlan_4 ⟨Nat.le_refl _, Nat.le_refl _⟩ (fun H locs hP hD hS => ?_)
  have hP : va_P G vwCl (cat [[(h, .inr (5, [.ref (Ad 0), .ref (At 0), .ref (As 0), .ref (Ac 0), .ref (L 6 0)]))], shW cyI As S, dyW cyI Ad D]) H := hP
  have hD : va_D A9 (cat [[(h, .inr (5, [.ref (Ad 0), .ref (At 0), .ref (As 0), .ref (Ac 0), .ref (L 6 0)]))], shW cyI As S, dyW cyI Ad D]) := hD
  refine lv_if_ne (tgt := 12) hx hb dX5_reasonInPlan_7 (by decide) (fun c_7 => ?_) (fun c_7 => ?_)
  · have c_7 : ¬ (cW D.2.2.1) = (0) := fun h9 => c_7 ((nI_eq (a := cW D.2.2.1) (b := 0) (by omega) (by omega)).mpr h9)
    refine lv_aload_n hx hb dX5_reasonInPlan_12 rfl (lv_at hl 0 rfl) ?_
    refine va_get (v := .ref (Ad 0)) (C := RX5) (T := TX5) (N := 5) hx hb hts hinX5 hown hK hP 0 rfl rfl 0 (by decide) hf10 (fun _ h9 => h9) rfl dX5_reasonInPlan_13 ?_
    refine lv_iload_n hx hb dX5_reasonInPlan_16 rfl (lv_at hl 1 rfl) ?_
    refine gVi (gs := [[(h, .inr (5, [.ref (Ad 0), .ref (At 0), .ref (As 0), .ref (Ac 0), .ref (L 6 0)]))], shW cyI As S, dyW cyI Ad D]) (As := [.int (nI (k))]) (rest := []) ⟨hx, hb, hml, hown, hts⟩ (c_X1_ownerOf l G cyI cyO Ad D k (by omega)) (cwV 1 hts gX5_reasonInPlan_X1_ownerOf rfl rfl rfl (by decide +kernel) ⟨Nat.le_of_ble_eq_true rfl, Nat.le_of_ble_eq_true rfl⟩) hK hP hD hS hA [2] rfl rfl rfl 0 1 rfl rfl rfl hl.1 rfl (Nat.le_of_ble_eq_true rfl) dX5_reasonInPlan_17 ⟨Nat.le_refl _, Nat.le_refl _⟩ (fun H locs hP hD hS => ?_)
    have hP : va_P G vwCl (cat [[(h, .inr (5, [.ref (Ad 0), .ref (At 0), .ref (As 0), .ref (Ac 0), .ref (L 6 0)]))], shW cyI As S, dyW cyI Ad D]) H := hP
    have hD : va_D A9 (cat [[(h, .inr (5, [.ref (Ad 0), .ref (At 0), .ref (As 0), .ref (Ac 0), .ref (L 6 0)]))], shW cyI As S, dyW cyI Ad D]) := hD
    refine lv_istore_n (lv' := [(2, .int (D.2.1 k)), (0, .ref (h)), (1, .int (nI (k)))]) hx hb dX5_reasonInPlan_20 rfl hl (by decide) rfl (fun ls hl => ?_)
    refine lv_iload_n hx hb dX5_reasonInPlan_21 rfl (lv_at hl 0 rfl) ?_
    refine lv_aload_n hx hb dX5_reasonInPlan_22 rfl (lv_at hl 1 rfl) ?_
    refine va_get (v := .ref (As 0)) (C := RX5) (T := TX5) (N := 5) hx hb hts hinX5 hown hK hP 0 rfl rfl 2 (by decide) hf22 (fun _ h9 => h9) rfl dX5_reasonInPlan_23 ?_
    refine lv_iload_n hx hb dX5_reasonInPlan_26 rfl (lv_at hl 2 rfl) ?_
    refine gVi (gs := [[(h, .inr (5, [.ref (Ad 0), .ref (At 0), .ref (As 0), .ref (Ac 0), .ref (L 6 0)]))], shW cyI As S, dyW cyI Ad D]) (As := [.int (nI (k))]) (rest := [.int (D.2.1 k)]) ⟨hx, hb, hml, hown, hts⟩ (c_X4_ownerInPlan l G cyI cyO As S k (by omega)) (cwV 1 hts gX5_reasonInPlan_X4_ownerInPlan rfl rfl rfl (by decide +kernel) ⟨Nat.le_of_ble_eq_true rfl, Nat.le_of_ble_eq_true rfl⟩) hK hP hD hS hA [1] rfl rfl rfl 0 4 rfl rfl rfl hl.1 rfl (Nat.le_of_ble_eq_true rfl) dX5_reasonInPlan_27 ⟨Nat.le_refl _, Nat.le_refl _⟩ (fun H locs hP hD hS => ?_)
    have hP : va_P G vwCl (cat [[(h, .inr (5, [.ref (Ad 0), .ref (At 0), .ref (As 0), .ref (Ac 0), .ref (L 6 0)]))], shW cyI As S, dyW cyI Ad D]) H := hP
    have hD : va_D A9 (cat [[(h, .inr (5, [.ref (Ad 0), .ref (At 0), .ref (As 0), .ref (Ac 0), .ref (L 6 0)]))], shW cyI As S, dyW cyI Ad D]) := hD
    refine lv_icmp_ne (tgt := 35) hx hb dX5_reasonInPlan_30 (by decide) (fun c_30 => ?_) (fun c_30 => ?_)
    · refine lv_iload_n hx hb dX5_reasonInPlan_35 rfl (lv_at hl 0 rfl) ?_
      refine lv_iconst (v := (-1 : Int32)) hx hb dX5_reasonInPlan_36 (by decide) ?_
      refine lv_icmp_ne (tgt := 44) hx hb dX5_reasonInPlan_37 (by decide) (fun c_37 => ?_) (fun c_37 => ?_)
      · refine lv_iconst (v := (3 : Int32)) hx hb dX5_reasonInPlan_44 (by decide) ?_
        have hP : va_P G vwCl (cat [[(h, .inr (5, [.ref (Ad 0), .ref (At 0), .ref (As 0), .ref (Ac 0), .ref (L 6 0)]))], shW cyI As S, dyW cyI Ad D]) H := hP
        have hD : va_D A9 (cat [[(h, .inr (5, [.ref (Ad 0), .ref (At 0), .ref (As 0), .ref (Ac 0), .ref (L 6 0)]))], shW cyI As S, dyW cyI Ad D]) := hD
        exact end_i hx hb hr hlocks hK hP hD hS (by first | (rw [rsn, if_pos c_7]; done) | (rw [rsn, if_neg c_7, if_pos c_30]; done) | (rw [rsn, if_neg c_7, if_neg c_30, if_pos c_37]; done) | (rw [rsn, if_neg c_7, if_neg c_30, if_neg c_37]; done)) dX5_reasonInPlan_45
      · refine lv_iconst (v := (2 : Int32)) hx hb dX5_reasonInPlan_40 (by decide) ?_
        refine lv_goto (tgt := 45) hx hb dX5_reasonInPlan_41 (by decide) ?_
        have hP : va_P G vwCl (cat [[(h, .inr (5, [.ref (Ad 0), .ref (At 0), .ref (As 0), .ref (Ac 0), .ref (L 6 0)]))], shW cyI As S, dyW cyI Ad D]) H := hP
        have hD : va_D A9 (cat [[(h, .inr (5, [.ref (Ad 0), .ref (At 0), .ref (As 0), .ref (Ac 0), .ref (L 6 0)]))], shW cyI As S, dyW cyI Ad D]) := hD
        exact end_i hx hb hr hlocks hK hP hD hS (by first | (rw [rsn, if_pos c_7]; done) | (rw [rsn, if_neg c_7, if_pos c_30]; done) | (rw [rsn, if_neg c_7, if_neg c_30, if_pos c_37]; done) | (rw [rsn, if_neg c_7, if_neg c_30, if_neg c_37]; done)) dX5_reasonInPlan_45
    · refine lv_iconst (v := (0 : Int32)) hx hb dX5_reasonInPlan_33 (by decide) ?_
      have hP : va_P G vwCl (cat [[(h, .inr (5, [.ref (Ad 0), .ref (At 0), .ref (As 0), .ref (Ac 0), .ref (L 6 0)]))], shW cyI As S, dyW cyI Ad D]) H := hP
      have hD : va_D A9 (cat [[(h, .inr (5, [.ref (Ad 0), .ref (At 0), .ref (As 0), .ref (Ac 0), .ref (L 6 0)]))], shW cyI As S, dyW cyI Ad D]) := hD
      exact end_i hx hb hr hlocks hK hP hD hS (by first | (rw [rsn, if_pos c_7]; done) | (rw [rsn, if_neg c_7, if_pos c_30]; done) | (rw [rsn, if_neg c_7, if_neg c_30, if_pos c_37]; done) | (rw [rsn, if_neg c_7, if_neg c_30, if_neg c_37]; done)) dX5_reasonInPlan_34
  · have c_7 : (cW D.2.2.1) = (0) := (nI_eq (a := cW D.2.2.1) (b := 0) (by omega) (by omega)).mp c_7
    refine lv_iconst (v := (1 : Int32)) hx hb dX5_reasonInPlan_10 (by decide) ?_
    have hP : va_P G vwCl (cat [[(h, .inr (5, [.ref (Ad 0), .ref (At 0), .ref (As 0), .ref (Ac 0), .ref (L 6 0)]))], shW cyI As S, dyW cyI Ad D]) H := hP
    have hD : va_D A9 (cat [[(h, .inr (5, [.ref (Ad 0), .ref (At 0), .ref (As 0), .ref (Ac 0), .ref (L 6 0)]))], shW cyI As S, dyW cyI Ad D]) := hD
    exact end_i hx hb hr hlocks hK hP hD hS (by first | (rw [rsn, if_pos c_7]; done) | (rw [rsn, if_neg c_7, if_pos c_30]; done) | (rw [rsn, if_neg c_7, if_neg c_30, if_pos c_37]; done) | (rw [rsn, if_neg c_7, if_neg c_30, if_neg c_37]; done)) dX5_reasonInPlan_11
abbrev rm_X5_changesIfSwitched : Room := { frames := 4, cells := 0, slots := 0, locals := 92 }
set_option maxHeartbeats 4000000 in
set_option maxRecDepth 100000 in
theorem c_X5_changesIfSwitched (l : Launch) (G : va_G) (cyI cyO : ClassId) (h : Nat) (Ad At As Ac : Nat → Nat) (L : Nat → Nat → Nat) (S : SS) (T : DS) (D : DS) (k : Nat) (hk : k < 6) (hn : D.2.2.2.2.2.1 ≤ 20) : CI l G (TY cyI cyO) yX5_changesIfSwitched wsX5_changesIfSwitched rm_X5_changesIfSwitched [.ref (h), .int (nI (k))] [[(h, .inr (5, [.ref (Ad 0), .ref (At 0), .ref (As 0), .ref (Ac 0), .ref (L 6 0)]))], shW cyI As S, dyW cyI At T, dyW cyI Ad D] (shRes S (dSw T D k)) [[(h, .inr (5, [.ref (Ad 0), .ref (At 0), .ref (As 0), .ref (Ac 0), .ref (L 6 0)]))], shW cyI As (shOut S (dSw T D k)), dyW cyI At (dSw T D k), dyW cyI Ad D] := by
  refine wk_I (cc := cX5_changesIfSwitched) (maxL := 2) (ret := (some .int)) (by decide) rfl (Nat.le_of_ble_eq_true rfl) ?_
  intro p9 e9 s9 m9 b9 t9 c9 A9 ls hx hb hr hts hown hlocks hml hK hA hD hP hl hS hnm
  have hl : lv_has ls 2 [(0, .ref (h)), (1, .int (nI (k)))] := hl
  have hinX5 : ∀ w ∈ wsX50, w ∈ wsX5_changesIfSwitched := by decide +kernel
  have hf10 := hts (.fieldLink RX5 10 "DoorstepRounds" "dairy" "LDoorstepRounds$Dairy;") (by decide +kernel)
  have hf16 := hts (.fieldLink RX5 16 "DoorstepRounds" "trial" "LDoorstepRounds$Dairy;") (by decide +kernel)
  have hf22 := hts (.fieldLink RX5 22 "DoorstepRounds" "sharing" "LDoorstepRounds$Sharing;") (by decide +kernel)
  refine lv_aload_n hx hb dX5_changesIfSwitched_0 rfl (lv_at hl 0 rfl) ?_
  refine va_get (v := .ref (At 0)) (C := RX5) (T := TX5) (N := 5) hx hb hts hinX5 hown hK hP 0 rfl rfl 1 (by decide) hf16 (fun _ h9 => h9) rfl dX5_changesIfSwitched_1 ?_
  refine lv_aload_n hx hb dX5_changesIfSwitched_4 rfl (lv_at hl 0 rfl) ?_
  refine va_get (v := .ref (Ad 0)) (C := RX5) (T := TX5) (N := 5) hx hb hts hinX5 hown hK hP 0 rfl rfl 0 (by decide) hf10 (fun _ h9 => h9) rfl dX5_changesIfSwitched_5 ?_
  refine gVv (gs := [[(h, .inr (5, [.ref (Ad 0), .ref (At 0), .ref (As 0), .ref (Ac 0), .ref (L 6 0)]))], shW cyI As S, dyW cyI At T, dyW cyI Ad D]) (As := [.ref (Ad 0)]) (rest := []) ⟨hx, hb, hml, hown, hts⟩ (c_X1_copyFrom l G cyI cyO At Ad T D) (cwV 1 hts gX5_changesIfSwitched_X1_copyFrom rfl rfl rfl (by decide +kernel) ⟨Nat.le_of_ble_eq_true rfl, Nat.le_of_ble_eq_true rfl⟩) hK hP hD hS hA [2, 3] rfl rfl rfl 0 1 rfl rfl rfl hl.1 rfl (Nat.le_of_ble_eq_true rfl) dX5_changesIfSwitched_8 ⟨Nat.le_refl _, Nat.le_refl _⟩ (fun H locs hP hD hS => ?_)
  have hP : va_P G vwCl (cat [[(h, .inr (5, [.ref (Ad 0), .ref (At 0), .ref (As 0), .ref (Ac 0), .ref (L 6 0)]))], shW cyI As S, dyW cyI At (dCopy T D), dyW cyI Ad D]) H := hP
  have hD : va_D A9 (cat [[(h, .inr (5, [.ref (Ad 0), .ref (At 0), .ref (As 0), .ref (Ac 0), .ref (L 6 0)]))], shW cyI As S, dyW cyI At (dCopy T D), dyW cyI Ad D]) := hD
  refine lv_aload_n hx hb dX5_changesIfSwitched_11 rfl (lv_at hl 0 rfl) ?_
  refine va_get (v := .ref (At 0)) (C := RX5) (T := TX5) (N := 5) hx hb hts hinX5 hown hK hP 0 rfl rfl 1 (by decide) hf16 (fun _ h9 => h9) rfl dX5_changesIfSwitched_12 ?_
  refine lv_iload_n hx hb dX5_changesIfSwitched_15 rfl (lv_at hl 1 rfl) ?_
  refine gVi (gs := [[(h, .inr (5, [.ref (Ad 0), .ref (At 0), .ref (As 0), .ref (Ac 0), .ref (L 6 0)]))], shW cyI As S, dyW cyI At (dCopy T D), dyW cyI Ad D]) (As := [.int (nI (k))]) (rest := []) ⟨hx, hb, hml, hown, hts⟩ (c_X1_works l G cyI cyO At (dCopy T D) k (by omega)) (cwV 1 hts gX5_changesIfSwitched_X1_works rfl rfl rfl (by decide +kernel) ⟨Nat.le_of_ble_eq_true rfl, Nat.le_of_ble_eq_true rfl⟩) hK hP hD hS hA [2] rfl rfl rfl 0 1 rfl rfl rfl hl.1 rfl (Nat.le_of_ble_eq_true rfl) dX5_changesIfSwitched_16 ⟨Nat.le_refl _, Nat.le_refl _⟩ (fun H locs hP hD hS => ?_)
  have hP : va_P G vwCl (cat [[(h, .inr (5, [.ref (Ad 0), .ref (At 0), .ref (As 0), .ref (Ac 0), .ref (L 6 0)]))], shW cyI As S, dyW cyI At (dCopy T D), dyW cyI Ad D]) H := hP
  have hD : va_D A9 (cat [[(h, .inr (5, [.ref (Ad 0), .ref (At 0), .ref (As 0), .ref (Ac 0), .ref (L 6 0)]))], shW cyI As S, dyW cyI At (dCopy T D), dyW cyI Ad D]) := hD
  refine lv_if_eq (tgt := 34) hx hb dX5_changesIfSwitched_19 (by decide) (fun c_19 => ?_) (fun c_19 => ?_)
  · have c_19 : (decide ((dCopy T D).2.2.1 k = 1)) = false := bI_z.mp c_19
    have c_19 : ¬ ((dCopy T D).2.2.1 k = 1) := of_decide_eq_false c_19
    have ew : dSw T D k = dWel (dCopy T D) k := if_neg c_19
    refine lv_aload_n hx hb dX5_changesIfSwitched_34 rfl (lv_at hl 0 rfl) ?_
    refine va_get (v := .ref (At 0)) (C := RX5) (T := TX5) (N := 5) hx hb hts hinX5 hown hK hP 0 rfl rfl 1 (by decide) hf16 (fun _ h9 => h9) rfl dX5_changesIfSwitched_35 ?_
    refine lv_iload_n hx hb dX5_changesIfSwitched_38 rfl (lv_at hl 1 rfl) ?_
    refine gVi (gs := [[(h, .inr (5, [.ref (Ad 0), .ref (At 0), .ref (As 0), .ref (Ac 0), .ref (L 6 0)]))], shW cyI As S, dyW cyI At (dCopy T D), dyW cyI Ad D]) (As := [.int (nI (k))]) (rest := []) ⟨hx, hb, hml, hown, hts⟩ (c_X1_welcome l G cyI cyO At (dCopy T D) k (by omega)) (cwV 1 hts gX5_changesIfSwitched_X1_welcome rfl rfl rfl (by decide +kernel) ⟨Nat.le_of_ble_eq_true rfl, Nat.le_of_ble_eq_true rfl⟩) hK hP hD hS hA [2] rfl rfl rfl 0 1 rfl rfl rfl hl.1 rfl (Nat.le_of_ble_eq_true rfl) dX5_changesIfSwitched_39 ⟨Nat.le_refl _, Nat.le_refl _⟩ (fun H locs hP hD hS => ?_)
    have hP : va_P G vwCl (cat [[(h, .inr (5, [.ref (Ad 0), .ref (At 0), .ref (As 0), .ref (Ac 0), .ref (L 6 0)]))], shW cyI As S, dyW cyI At (((dCopy T D).1, (dCopy T D).2.1, upd (dCopy T D).2.2.1 k 1, (dCopy T D).2.2.2.1, (dCopy T D).2.2.2.2.1, (dCopy T D).2.2.2.2.2.1, (dCopy T D).2.2.2.2.2.2.1, (dCopy T D).2.2.2.2.2.2.2.1, (dCopy T D).2.2.2.2.2.2.2.2.1, (dCopy T D).2.2.2.2.2.2.2.2.2)), dyW cyI Ad D]) H := hP
    have hD : va_D A9 (cat [[(h, .inr (5, [.ref (Ad 0), .ref (At 0), .ref (As 0), .ref (Ac 0), .ref (L 6 0)]))], shW cyI As S, dyW cyI At (((dCopy T D).1, (dCopy T D).2.1, upd (dCopy T D).2.2.1 k 1, (dCopy T D).2.2.2.1, (dCopy T D).2.2.2.2.1, (dCopy T D).2.2.2.2.2.1, (dCopy T D).2.2.2.2.2.2.1, (dCopy T D).2.2.2.2.2.2.2.1, (dCopy T D).2.2.2.2.2.2.2.2.1, (dCopy T D).2.2.2.2.2.2.2.2.2)), dyW cyI Ad D]) := hD
    refine lv_pop hx hb dX5_changesIfSwitched_42 rfl ?_
    refine lv_aload_n hx hb dX5_changesIfSwitched_43 rfl (lv_at hl 0 rfl) ?_
    refine va_get (v := .ref (As 0)) (C := RX5) (T := TX5) (N := 5) hx hb hts hinX5 hown hK hP 0 rfl rfl 2 (by decide) hf22 (fun _ h9 => h9) rfl dX5_changesIfSwitched_44 ?_
    refine lv_aload_n hx hb dX5_changesIfSwitched_47 rfl (lv_at hl 0 rfl) ?_
    refine va_get (v := .ref (At 0)) (C := RX5) (T := TX5) (N := 5) hx hb hts hinX5 hown hK hP 0 rfl rfl 1 (by decide) hf16 (fun _ h9 => h9) rfl dX5_changesIfSwitched_48 ?_
    refine gVi (gs := [[(h, .inr (5, [.ref (Ad 0), .ref (At 0), .ref (As 0), .ref (Ac 0), .ref (L 6 0)]))], shW cyI As S, dyW cyI At (((dCopy T D).1, (dCopy T D).2.1, upd (dCopy T D).2.2.1 k 1, (dCopy T D).2.2.2.1, (dCopy T D).2.2.2.2.1, (dCopy T D).2.2.2.2.2.1, (dCopy T D).2.2.2.2.2.2.1, (dCopy T D).2.2.2.2.2.2.2.1, (dCopy T D).2.2.2.2.2.2.2.2.1, (dCopy T D).2.2.2.2.2.2.2.2.2)), dyW cyI Ad D]) (As := [.ref (At 0)]) (rest := []) ⟨hx, hb, hml, hown, hts⟩ (c_X4_shareOut l G cyI cyO As At S (((dCopy T D).1, (dCopy T D).2.1, upd (dCopy T D).2.2.1 k 1, (dCopy T D).2.2.2.1, (dCopy T D).2.2.2.2.1, (dCopy T D).2.2.2.2.2.1, (dCopy T D).2.2.2.2.2.2.1, (dCopy T D).2.2.2.2.2.2.2.1, (dCopy T D).2.2.2.2.2.2.2.2.1, (dCopy T D).2.2.2.2.2.2.2.2.2)) (hn)) (cwV 1 hts gX5_changesIfSwitched_X4_shareOut rfl rfl rfl (by decide +kernel) ⟨Nat.le_of_ble_eq_true rfl, Nat.le_of_ble_eq_true rfl⟩) hK hP hD hS hA [1, 2] rfl rfl rfl 0 4 rfl rfl rfl hl.1 rfl (Nat.le_of_ble_eq_true rfl) dX5_changesIfSwitched_51 ⟨Nat.le_refl _, Nat.le_refl _⟩ (fun H locs hP hD hS => ?_)
    have hP : va_P G vwCl (cat [[(h, .inr (5, [.ref (Ad 0), .ref (At 0), .ref (As 0), .ref (Ac 0), .ref (L 6 0)]))], shW cyI As (shOut S (((dCopy T D).1, (dCopy T D).2.1, upd (dCopy T D).2.2.1 k 1, (dCopy T D).2.2.2.1, (dCopy T D).2.2.2.2.1, (dCopy T D).2.2.2.2.2.1, (dCopy T D).2.2.2.2.2.2.1, (dCopy T D).2.2.2.2.2.2.2.1, (dCopy T D).2.2.2.2.2.2.2.2.1, (dCopy T D).2.2.2.2.2.2.2.2.2))), dyW cyI At (((dCopy T D).1, (dCopy T D).2.1, upd (dCopy T D).2.2.1 k 1, (dCopy T D).2.2.2.1, (dCopy T D).2.2.2.2.1, (dCopy T D).2.2.2.2.2.1, (dCopy T D).2.2.2.2.2.2.1, (dCopy T D).2.2.2.2.2.2.2.1, (dCopy T D).2.2.2.2.2.2.2.2.1, (dCopy T D).2.2.2.2.2.2.2.2.2)), dyW cyI Ad D]) H := hP
    have hD : va_D A9 (cat [[(h, .inr (5, [.ref (Ad 0), .ref (At 0), .ref (As 0), .ref (Ac 0), .ref (L 6 0)]))], shW cyI As (shOut S (((dCopy T D).1, (dCopy T D).2.1, upd (dCopy T D).2.2.1 k 1, (dCopy T D).2.2.2.1, (dCopy T D).2.2.2.2.1, (dCopy T D).2.2.2.2.2.1, (dCopy T D).2.2.2.2.2.2.1, (dCopy T D).2.2.2.2.2.2.2.1, (dCopy T D).2.2.2.2.2.2.2.2.1, (dCopy T D).2.2.2.2.2.2.2.2.2))), dyW cyI At (((dCopy T D).1, (dCopy T D).2.1, upd (dCopy T D).2.2.1 k 1, (dCopy T D).2.2.2.1, (dCopy T D).2.2.2.2.1, (dCopy T D).2.2.2.2.2.1, (dCopy T D).2.2.2.2.2.2.1, (dCopy T D).2.2.2.2.2.2.2.1, (dCopy T D).2.2.2.2.2.2.2.2.1, (dCopy T D).2.2.2.2.2.2.2.2.2)), dyW cyI Ad D]) := hD
    have hgo : cat [[(h, .inr (5, [.ref (Ad 0), .ref (At 0), .ref (As 0), .ref (Ac 0), .ref (L 6 0)]))], shW cyI As (shOut S (((dCopy T D).1, (dCopy T D).2.1, upd (dCopy T D).2.2.1 k 1, (dCopy T D).2.2.2.1, (dCopy T D).2.2.2.2.1, (dCopy T D).2.2.2.2.2.1, (dCopy T D).2.2.2.2.2.2.1, (dCopy T D).2.2.2.2.2.2.2.1, (dCopy T D).2.2.2.2.2.2.2.2.1, (dCopy T D).2.2.2.2.2.2.2.2.2))), dyW cyI At (((dCopy T D).1, (dCopy T D).2.1, upd (dCopy T D).2.2.1 k 1, (dCopy T D).2.2.2.1, (dCopy T D).2.2.2.2.1, (dCopy T D).2.2.2.2.2.1, (dCopy T D).2.2.2.2.2.2.1, (dCopy T D).2.2.2.2.2.2.2.1, (dCopy T D).2.2.2.2.2.2.2.2.1, (dCopy T D).2.2.2.2.2.2.2.2.2)), dyW cyI Ad D] = cat [[(h, .inr (5, [.ref (Ad 0), .ref (At 0), .ref (As 0), .ref (Ac 0), .ref (L 6 0)]))], shW cyI As (shOut S (dSw T D k)), dyW cyI At (dSw T D k), dyW cyI Ad D] := by rw [ew] <;> rfl
    rw [hgo] at hP hD
    have hP : va_P G vwCl (cat [[(h, .inr (5, [.ref (Ad 0), .ref (At 0), .ref (As 0), .ref (Ac 0), .ref (L 6 0)]))], shW cyI As (shOut S (dSw T D k)), dyW cyI At (dSw T D k), dyW cyI Ad D]) H := hP
    have hD : va_D A9 (cat [[(h, .inr (5, [.ref (Ad 0), .ref (At 0), .ref (As 0), .ref (Ac 0), .ref (L 6 0)]))], shW cyI As (shOut S (dSw T D k)), dyW cyI At (dSw T D k), dyW cyI Ad D]) := hD
    exact end_i hx hb hr hlocks hK hP hD hS (by rw [ew] <;> rfl) dX5_changesIfSwitched_54
  · have c_19 : (decide ((dCopy T D).2.2.1 k = 1)) = true := bI_nz.mp c_19
    have c_19 : ((dCopy T D).2.2.1 k = 1) := of_decide_eq_true c_19
    have ew : dSw T D k = dDis (dCopy T D) k := if_pos c_19
    refine lv_aload_n hx hb dX5_changesIfSwitched_22 rfl (lv_at hl 0 rfl) ?_
    refine va_get (v := .ref (At 0)) (C := RX5) (T := TX5) (N := 5) hx hb hts hinX5 hown hK hP 0 rfl rfl 1 (by decide) hf16 (fun _ h9 => h9) rfl dX5_changesIfSwitched_23 ?_
    refine lv_iload_n hx hb dX5_changesIfSwitched_26 rfl (lv_at hl 1 rfl) ?_
    refine gVi (gs := [[(h, .inr (5, [.ref (Ad 0), .ref (At 0), .ref (As 0), .ref (Ac 0), .ref (L 6 0)]))], shW cyI As S, dyW cyI At (dCopy T D), dyW cyI Ad D]) (As := [.int (nI (k))]) (rest := []) ⟨hx, hb, hml, hown, hts⟩ (c_X1_dismiss l G cyI cyO At (dCopy T D) k (hn) (by omega)) (cwV 1 hts gX5_changesIfSwitched_X1_dismiss rfl rfl rfl (by decide +kernel) ⟨Nat.le_of_ble_eq_true rfl, Nat.le_of_ble_eq_true rfl⟩) hK hP hD hS hA [2] rfl rfl rfl 0 1 rfl rfl rfl hl.1 rfl (Nat.le_of_ble_eq_true rfl) dX5_changesIfSwitched_27 ⟨Nat.le_refl _, Nat.le_refl _⟩ (fun H locs hP hD hS => ?_)
    have hP : va_P G vwCl (cat [[(h, .inr (5, [.ref (Ad 0), .ref (At 0), .ref (As 0), .ref (Ac 0), .ref (L 6 0)]))], shW cyI As S, dyW cyI At (((dCopy T D).1, (dsAll (dCopy T D).2.1 (dCopy T D).2.2.2.2.2.1 (nI k)).1, upd (dCopy T D).2.2.1 k 0, (dCopy T D).2.2.2.1, (dCopy T D).2.2.2.2.1, (dCopy T D).2.2.2.2.2.1, (dCopy T D).2.2.2.2.2.2.1, (dCopy T D).2.2.2.2.2.2.2.1, (dCopy T D).2.2.2.2.2.2.2.2.1, (dCopy T D).2.2.2.2.2.2.2.2.2)), dyW cyI Ad D]) H := hP
    have hD : va_D A9 (cat [[(h, .inr (5, [.ref (Ad 0), .ref (At 0), .ref (As 0), .ref (Ac 0), .ref (L 6 0)]))], shW cyI As S, dyW cyI At (((dCopy T D).1, (dsAll (dCopy T D).2.1 (dCopy T D).2.2.2.2.2.1 (nI k)).1, upd (dCopy T D).2.2.1 k 0, (dCopy T D).2.2.2.1, (dCopy T D).2.2.2.2.1, (dCopy T D).2.2.2.2.2.1, (dCopy T D).2.2.2.2.2.2.1, (dCopy T D).2.2.2.2.2.2.2.1, (dCopy T D).2.2.2.2.2.2.2.2.1, (dCopy T D).2.2.2.2.2.2.2.2.2)), dyW cyI Ad D]) := hD
    refine lv_pop hx hb dX5_changesIfSwitched_30 rfl ?_
    refine lv_goto (tgt := 43) hx hb dX5_changesIfSwitched_31 (by decide) ?_
    refine lv_aload_n hx hb dX5_changesIfSwitched_43 rfl (lv_at hl 0 rfl) ?_
    refine va_get (v := .ref (As 0)) (C := RX5) (T := TX5) (N := 5) hx hb hts hinX5 hown hK hP 0 rfl rfl 2 (by decide) hf22 (fun _ h9 => h9) rfl dX5_changesIfSwitched_44 ?_
    refine lv_aload_n hx hb dX5_changesIfSwitched_47 rfl (lv_at hl 0 rfl) ?_
    refine va_get (v := .ref (At 0)) (C := RX5) (T := TX5) (N := 5) hx hb hts hinX5 hown hK hP 0 rfl rfl 1 (by decide) hf16 (fun _ h9 => h9) rfl dX5_changesIfSwitched_48 ?_
    refine gVi (gs := [[(h, .inr (5, [.ref (Ad 0), .ref (At 0), .ref (As 0), .ref (Ac 0), .ref (L 6 0)]))], shW cyI As S, dyW cyI At (((dCopy T D).1, (dsAll (dCopy T D).2.1 (dCopy T D).2.2.2.2.2.1 (nI k)).1, upd (dCopy T D).2.2.1 k 0, (dCopy T D).2.2.2.1, (dCopy T D).2.2.2.2.1, (dCopy T D).2.2.2.2.2.1, (dCopy T D).2.2.2.2.2.2.1, (dCopy T D).2.2.2.2.2.2.2.1, (dCopy T D).2.2.2.2.2.2.2.2.1, (dCopy T D).2.2.2.2.2.2.2.2.2)), dyW cyI Ad D]) (As := [.ref (At 0)]) (rest := []) ⟨hx, hb, hml, hown, hts⟩ (c_X4_shareOut l G cyI cyO As At S (((dCopy T D).1, (dsAll (dCopy T D).2.1 (dCopy T D).2.2.2.2.2.1 (nI k)).1, upd (dCopy T D).2.2.1 k 0, (dCopy T D).2.2.2.1, (dCopy T D).2.2.2.2.1, (dCopy T D).2.2.2.2.2.1, (dCopy T D).2.2.2.2.2.2.1, (dCopy T D).2.2.2.2.2.2.2.1, (dCopy T D).2.2.2.2.2.2.2.2.1, (dCopy T D).2.2.2.2.2.2.2.2.2)) (hn)) (cwV 1 hts gX5_changesIfSwitched_X4_shareOut rfl rfl rfl (by decide +kernel) ⟨Nat.le_of_ble_eq_true rfl, Nat.le_of_ble_eq_true rfl⟩) hK hP hD hS hA [1, 2] rfl rfl rfl 0 4 rfl rfl rfl hl.1 rfl (Nat.le_of_ble_eq_true rfl) dX5_changesIfSwitched_51 ⟨Nat.le_refl _, Nat.le_refl _⟩ (fun H locs hP hD hS => ?_)
    have hP : va_P G vwCl (cat [[(h, .inr (5, [.ref (Ad 0), .ref (At 0), .ref (As 0), .ref (Ac 0), .ref (L 6 0)]))], shW cyI As (shOut S (((dCopy T D).1, (dsAll (dCopy T D).2.1 (dCopy T D).2.2.2.2.2.1 (nI k)).1, upd (dCopy T D).2.2.1 k 0, (dCopy T D).2.2.2.1, (dCopy T D).2.2.2.2.1, (dCopy T D).2.2.2.2.2.1, (dCopy T D).2.2.2.2.2.2.1, (dCopy T D).2.2.2.2.2.2.2.1, (dCopy T D).2.2.2.2.2.2.2.2.1, (dCopy T D).2.2.2.2.2.2.2.2.2))), dyW cyI At (((dCopy T D).1, (dsAll (dCopy T D).2.1 (dCopy T D).2.2.2.2.2.1 (nI k)).1, upd (dCopy T D).2.2.1 k 0, (dCopy T D).2.2.2.1, (dCopy T D).2.2.2.2.1, (dCopy T D).2.2.2.2.2.1, (dCopy T D).2.2.2.2.2.2.1, (dCopy T D).2.2.2.2.2.2.2.1, (dCopy T D).2.2.2.2.2.2.2.2.1, (dCopy T D).2.2.2.2.2.2.2.2.2)), dyW cyI Ad D]) H := hP
    have hD : va_D A9 (cat [[(h, .inr (5, [.ref (Ad 0), .ref (At 0), .ref (As 0), .ref (Ac 0), .ref (L 6 0)]))], shW cyI As (shOut S (((dCopy T D).1, (dsAll (dCopy T D).2.1 (dCopy T D).2.2.2.2.2.1 (nI k)).1, upd (dCopy T D).2.2.1 k 0, (dCopy T D).2.2.2.1, (dCopy T D).2.2.2.2.1, (dCopy T D).2.2.2.2.2.1, (dCopy T D).2.2.2.2.2.2.1, (dCopy T D).2.2.2.2.2.2.2.1, (dCopy T D).2.2.2.2.2.2.2.2.1, (dCopy T D).2.2.2.2.2.2.2.2.2))), dyW cyI At (((dCopy T D).1, (dsAll (dCopy T D).2.1 (dCopy T D).2.2.2.2.2.1 (nI k)).1, upd (dCopy T D).2.2.1 k 0, (dCopy T D).2.2.2.1, (dCopy T D).2.2.2.2.1, (dCopy T D).2.2.2.2.2.1, (dCopy T D).2.2.2.2.2.2.1, (dCopy T D).2.2.2.2.2.2.2.1, (dCopy T D).2.2.2.2.2.2.2.2.1, (dCopy T D).2.2.2.2.2.2.2.2.2)), dyW cyI Ad D]) := hD
    have hgo : cat [[(h, .inr (5, [.ref (Ad 0), .ref (At 0), .ref (As 0), .ref (Ac 0), .ref (L 6 0)]))], shW cyI As (shOut S (((dCopy T D).1, (dsAll (dCopy T D).2.1 (dCopy T D).2.2.2.2.2.1 (nI k)).1, upd (dCopy T D).2.2.1 k 0, (dCopy T D).2.2.2.1, (dCopy T D).2.2.2.2.1, (dCopy T D).2.2.2.2.2.1, (dCopy T D).2.2.2.2.2.2.1, (dCopy T D).2.2.2.2.2.2.2.1, (dCopy T D).2.2.2.2.2.2.2.2.1, (dCopy T D).2.2.2.2.2.2.2.2.2))), dyW cyI At (((dCopy T D).1, (dsAll (dCopy T D).2.1 (dCopy T D).2.2.2.2.2.1 (nI k)).1, upd (dCopy T D).2.2.1 k 0, (dCopy T D).2.2.2.1, (dCopy T D).2.2.2.2.1, (dCopy T D).2.2.2.2.2.1, (dCopy T D).2.2.2.2.2.2.1, (dCopy T D).2.2.2.2.2.2.2.1, (dCopy T D).2.2.2.2.2.2.2.2.1, (dCopy T D).2.2.2.2.2.2.2.2.2)), dyW cyI Ad D] = cat [[(h, .inr (5, [.ref (Ad 0), .ref (At 0), .ref (As 0), .ref (Ac 0), .ref (L 6 0)]))], shW cyI As (shOut S (dSw T D k)), dyW cyI At (dSw T D k), dyW cyI Ad D] := by rw [ew] <;> rfl
    rw [hgo] at hP hD
    have hP : va_P G vwCl (cat [[(h, .inr (5, [.ref (Ad 0), .ref (At 0), .ref (As 0), .ref (Ac 0), .ref (L 6 0)]))], shW cyI As (shOut S (dSw T D k)), dyW cyI At (dSw T D k), dyW cyI Ad D]) H := hP
    have hD : va_D A9 (cat [[(h, .inr (5, [.ref (Ad 0), .ref (At 0), .ref (As 0), .ref (Ac 0), .ref (L 6 0)]))], shW cyI As (shOut S (dSw T D k)), dyW cyI At (dSw T D k), dyW cyI Ad D]) := hD
    exact end_i hx hb hr hlocks hK hP hD hS (by rw [ew] <;> rfl) dX5_changesIfSwitched_54
abbrev rm_X5_mix : Room := { frames := 0, cells := 0, slots := 0, locals := 0 }
set_option maxHeartbeats 4000000 in
set_option maxRecDepth 100000 in
theorem c_X5_mix (l : Launch) (G : va_G) (cyI cyO : ClassId) (x : Int64) (v : Int32) : CL l G (TY cyI cyO) yX5_mix wsX5_mix rm_X5_mix [.long (x), .int (v)] [] (mixI x v) [] := by
  refine wk_L (cc := cX5_mix) (maxL := 3) (ret := (some .long)) (by decide) rfl (Nat.le_of_ble_eq_true rfl) ?_
  intro p9 e9 s9 m9 b9 t9 c9 A9 ls hx hb hr hts hown hlocks hml hK hA hD hP hl hS hnm
  have hl : lv_has ls 3 [(0, .long (x)), (2, .int (v))] := hl
  refine lv_ldc2 (v := ((31) : Int64)) hx hb hown (hts (.constantLong RX5 253 (31)) (by decide +kernel)) dX5_mix_0 ?_
  refine lv_lload_n hx hb dX5_mix_3 rfl (lv_at hl 0 rfl) ?_
  refine lv_lmul hx hb dX5_mix_4 ?_
  refine lv_iload_n hx hb dX5_mix_5 rfl (lv_at hl 1 rfl) ?_
  refine lv_i2l (v := v.toInt64) hx hb dX5_mix_6 rfl ?_
  refine lv_ladd hx hb dX5_mix_7 ?_
  have hP : va_P G vwCl (cat []) s9.heap := hP
  have hD : va_D A9 (cat []) := hD
  exact end_l hx hb hr hlocks hK hP hD hS (rfl) dX5_mix_8
abbrev rm_X5_mixMilkmen : Room := { frames := 5, cells := 0, slots := 0, locals := 113 }
set_option maxHeartbeats 4000000 in
set_option maxRecDepth 100000 in
theorem c_X5_mixMilkmen (l : Launch) (G : va_G) (cyI cyO : ClassId) (h : Nat) (Ad At As Ac : Nat → Nat) (L : Nat → Nat → Nat) (S : SS) (T : DS) (D : DS) (x : Int64) (hn : D.2.2.2.2.2.1 ≤ 20) (q1 : Int64) (qS : SS) (qT : DS) (hq : mmAll D x S T = (q1, qS, qT)) : CL l G (TY cyI cyO) yX5_mixMilkmen wsX5_mixMilkmen rm_X5_mixMilkmen [.ref (h), .long (x)] [[(h, .inr (5, [.ref (Ad 0), .ref (At 0), .ref (As 0), .ref (Ac 0), .ref (L 6 0)]))], shW cyI As S, dyW cyI At T, dyW cyI Ad D] q1 [[(h, .inr (5, [.ref (Ad 0), .ref (At 0), .ref (As 0), .ref (Ac 0), .ref (L 6 0)]))], shW cyI As qS, dyW cyI At qT, dyW cyI Ad D] := by
  refine wk_L (cc := cX5_mixMilkmen) (maxL := 6) (ret := (some .long)) (by decide) rfl (Nat.le_of_ble_eq_true rfl) ?_
  intro p9 e9 s9 m9 b9 t9 c9 A9 ls hx hb hr hts hown hlocks hml hK hA hD hP hl hS hnm
  have hl : lv_has ls 6 [(0, .ref (h)), (1, .long (x))] := hl
  have hinX5 : ∀ w ∈ wsX50, w ∈ wsX5_mixMilkmen := by decide +kernel
  have hf10 := hts (.fieldLink RX5 10 "DoorstepRounds" "dairy" "LDoorstepRounds$Dairy;") (by decide +kernel)
  refine lv_lload_n hx hb dX5_mixMilkmen_0 rfl (lv_at hl 1 rfl) ?_
  refine lv_lstore_n (lv' := [(3, .long (x)), (0, .ref (h)), (1, .long (x))]) hx hb dX5_mixMilkmen_1 rfl hl (by decide) rfl (fun ls hl => ?_)
  refine lv_iconst (v := (0 : Int32)) hx hb dX5_mixMilkmen_2 (by decide) ?_
  refine lv_istore (lv' := [(5, .int ((0 : Int32))), (3, .long (x)), (0, .ref (h)), (1, .long (x))]) hx hb dX5_mixMilkmen_3 hl (by decide) rfl (fun ls hl => ?_)
  refine W_loop (α := Nat × Int64 × SS × DS) (I := fun a9 H locs ls => (a9.1 ≤ 6) ∧ ((a9.2.1, a9.2.2.1, a9.2.2.2) = itr a9.1 (mmStep D) (x, S, T)) ∧ va_P G vwCl (cat [[(h, .inr (5, [.ref (Ad 0), .ref (At 0), .ref (As 0), .ref (Ac 0), .ref (L 6 0)]))], shW cyI As a9.2.2.1, dyW cyI At a9.2.2.2, dyW cyI Ad D]) H ∧ va_D A9 (cat [[(h, .inr (5, [.ref (Ad 0), .ref (At 0), .ref (As 0), .ref (Ac 0), .ref (L 6 0)]))], shW cyI As a9.2.2.1, dyW cyI At a9.2.2.2, dyW cyI Ad D]) ∧ va_S A9 s9.heap H locs ∧ lv_has ls 6 [(5, .int (nI (a9.1))), (3, .long (a9.2.1)), (0, .ref (h)), (1, .long (x))]) (μ := fun a9 => 6 - a9.1) (st := fun a9 => []) ?_ (0, x, S, T) _ _ _ ⟨(show 0 ≤ 6 from by omega), (show (x, S, T) = itr 0 (mmStep D) (x, S, T) from rfl), hP, hD, hS, lv_sub hl [0, 1, 2, 3] rfl⟩
  intro a9 ih_5 H locs ls hI
  obtain ⟨i, y, S1, T1⟩ := a9
  obtain ⟨hi9, he9, hP9, hD9, hS9, hl9⟩ := hI
  have hi : i ≤ 6 := hi9
  have he : (y, S1, T1) = itr i (mmStep D) (x, S, T) := he9
  have hP : va_P G vwCl (cat [[(h, .inr (5, [.ref (Ad 0), .ref (At 0), .ref (As 0), .ref (Ac 0), .ref (L 6 0)]))], shW cyI As S1, dyW cyI At T1, dyW cyI Ad D]) H := hP9
  have hD : va_D A9 (cat [[(h, .inr (5, [.ref (Ad 0), .ref (At 0), .ref (As 0), .ref (Ac 0), .ref (L 6 0)]))], shW cyI As S1, dyW cyI At T1, dyW cyI Ad D]) := hD9
  have hS := hS9
  have hl : lv_has ls 6 [(5, .int (nI (i))), (3, .long (y)), (0, .ref (h)), (1, .long (x))] := hl9
  clear hi9 he9 hP9 hD9 hS9 hl9
  refine lv_iload hx hb dX5_mixMilkmen_5 (lv_at hl 0 rfl) ?_
  refine lv_bipush (v := (6 : Int32)) hx hb dX5_mixMilkmen_7 (by decide) ?_
  refine lv_icmp_ge (tgt := 79) hx hb dX5_mixMilkmen_9 (by decide) (fun c_9 => ?_) (fun c_9 => ?_)
  · have c_9 : (6) ≤ (i) := (nI_leI (a := 6) (b := i) (by omega) (by omega)).mp c_9
    obtain rfl : 6 = i := by omega
    rw [← show mmAll D x S T = itr 6 (mmStep D) (x, S, T) from rfl, hq] at he
    obtain rfl : q1 = y := (congrArg (fun q => q.1) he).symm
    obtain rfl : qS = S1 := (congrArg (fun q => q.2.1) he).symm
    obtain rfl : qT = T1 := (congrArg (fun q => q.2.2) he).symm
    refine lv_lload_n hx hb dX5_mixMilkmen_79 rfl (lv_at hl 1 rfl) ?_
    have hP : va_P G vwCl (cat [[(h, .inr (5, [.ref (Ad 0), .ref (At 0), .ref (As 0), .ref (Ac 0), .ref (L 6 0)]))], shW cyI As qS, dyW cyI At qT, dyW cyI Ad D]) H := hP
    have hD : va_D A9 (cat [[(h, .inr (5, [.ref (Ad 0), .ref (At 0), .ref (As 0), .ref (Ac 0), .ref (L 6 0)]))], shW cyI As qS, dyW cyI At qT, dyW cyI Ad D]) := hD
    exact end_l hx hb hr hlocks hK hP hD hS (rfl) dX5_mixMilkmen_80
  · have c_9 : ¬ (6) ≤ (i) := fun h9 => c_9 ((nI_leI (a := 6) (b := i) (by omega) (by omega)).mpr h9)
    refine lv_lload_n hx hb dX5_mixMilkmen_12 rfl (lv_at hl 1 rfl) ?_
    refine lv_aload_n hx hb dX5_mixMilkmen_13 rfl (lv_at hl 2 rfl) ?_
    refine va_get (v := .ref (Ad 0)) (C := RX5) (T := TX5) (N := 5) hx hb hts hinX5 hown hK hP 0 rfl rfl 0 (by decide) hf10 (fun _ h9 => h9) rfl dX5_mixMilkmen_14 ?_
    refine lv_iload hx hb dX5_mixMilkmen_17 (lv_at hl 0 rfl) ?_
    refine gVi (gs := [[(h, .inr (5, [.ref (Ad 0), .ref (At 0), .ref (As 0), .ref (Ac 0), .ref (L 6 0)]))], shW cyI As S1, dyW cyI At T1, dyW cyI Ad D]) (As := [.int (nI (i))]) (rest := [.long (y)]) ⟨hx, hb, hml, hown, hts⟩ (c_X1_works l G cyI cyO Ad D i (by omega)) (cwV 1 hts gX5_mixMilkmen_X1_works rfl rfl rfl (by decide +kernel) ⟨Nat.le_of_ble_eq_true rfl, Nat.le_of_ble_eq_true rfl⟩) hK hP hD hS hA [3] rfl rfl rfl 0 1 rfl rfl rfl hl.1 rfl (Nat.le_of_ble_eq_true rfl) dX5_mixMilkmen_19 ⟨Nat.le_refl _, Nat.le_refl _⟩ (fun H locs hP hD hS => ?_)
    have hP : va_P G vwCl (cat [[(h, .inr (5, [.ref (Ad 0), .ref (At 0), .ref (As 0), .ref (Ac 0), .ref (L 6 0)]))], shW cyI As S1, dyW cyI At T1, dyW cyI Ad D]) H := hP
    have hD : va_D A9 (cat [[(h, .inr (5, [.ref (Ad 0), .ref (At 0), .ref (As 0), .ref (Ac 0), .ref (L 6 0)]))], shW cyI As S1, dyW cyI At T1, dyW cyI Ad D]) := hD
    refine lv_if_eq (tgt := 29) hx hb dX5_mixMilkmen_22 (by decide) (fun c_22 => ?_) (fun c_22 => ?_)
    · have c_22 : (decide (D.2.2.1 i = 1)) = false := bI_z.mp c_22
      have c_22 : ¬ (D.2.2.1 i = 1) := of_decide_eq_false c_22
      refine lv_iconst (v := (0 : Int32)) hx hb dX5_mixMilkmen_29 (by decide) ?_
      refine gSl (gs := [[(h, .inr (5, [.ref (Ad 0), .ref (At 0), .ref (As 0), .ref (Ac 0), .ref (L 6 0)]))], shW cyI As S1, dyW cyI At T1, dyW cyI Ad D]) (As := [.long (y), .int ((0 : Int32))]) (rest := []) ⟨hx, hb, hml, hown, hts⟩ (c_X5_mix l G cyI cyO y ((0 : Int32))) (va_cwS 2 hts gX5_mixMilkmen_X5_mix rfl rfl rfl (by decide +kernel) ⟨Nat.le_of_ble_eq_true rfl, Nat.le_of_ble_eq_true rfl⟩) hK hP hD hS hA [] rfl rfl rfl rfl hl.1 rfl (Nat.le_of_ble_eq_true rfl) dX5_mixMilkmen_30 ⟨Nat.le_refl _, Nat.le_refl _⟩ (fun H locs hP hD hS => ?_)
      have hP : va_P G vwCl (cat [[(h, .inr (5, [.ref (Ad 0), .ref (At 0), .ref (As 0), .ref (Ac 0), .ref (L 6 0)]))], shW cyI As S1, dyW cyI At T1, dyW cyI Ad D]) H := hP
      have hD : va_D A9 (cat [[(h, .inr (5, [.ref (Ad 0), .ref (At 0), .ref (As 0), .ref (Ac 0), .ref (L 6 0)]))], shW cyI As S1, dyW cyI At T1, dyW cyI Ad D]) := hD
      refine lv_lstore_n (lv' := [(3, .long (mixI y ((0 : Int32)))), (5, .int (nI (i))), (0, .ref (h)), (1, .long (x))]) hx hb dX5_mixMilkmen_33 rfl hl (by decide) rfl (fun ls hl => ?_)
      refine lv_lload_n hx hb dX5_mixMilkmen_34 rfl (lv_at hl 0 rfl) ?_
      refine lv_aload_n hx hb dX5_mixMilkmen_35 rfl (lv_at hl 2 rfl) ?_
      refine va_get (v := .ref (Ad 0)) (C := RX5) (T := TX5) (N := 5) hx hb hts hinX5 hown hK hP 0 rfl rfl 0 (by decide) hf10 (fun _ h9 => h9) rfl dX5_mixMilkmen_36 ?_
      refine lv_iload hx hb dX5_mixMilkmen_39 (lv_at hl 1 rfl) ?_
      refine gVi (gs := [[(h, .inr (5, [.ref (Ad 0), .ref (At 0), .ref (As 0), .ref (Ac 0), .ref (L 6 0)]))], shW cyI As S1, dyW cyI At T1, dyW cyI Ad D]) (As := [.int (nI (i))]) (rest := [.long (mixI y ((0 : Int32)))]) ⟨hx, hb, hml, hown, hts⟩ (c_X1_roundSize l G cyI cyO Ad D (nI (i)) (by omega)) (cwV 1 hts gX5_mixMilkmen_X1_roundSize rfl rfl rfl (by decide +kernel) ⟨Nat.le_of_ble_eq_true rfl, Nat.le_of_ble_eq_true rfl⟩) hK hP hD hS hA [3] rfl rfl rfl 0 1 rfl rfl rfl hl.1 rfl (Nat.le_of_ble_eq_true rfl) dX5_mixMilkmen_41 ⟨Nat.le_refl _, Nat.le_refl _⟩ (fun H locs hP hD hS => ?_)
      have hP : va_P G vwCl (cat [[(h, .inr (5, [.ref (Ad 0), .ref (At 0), .ref (As 0), .ref (Ac 0), .ref (L 6 0)]))], shW cyI As S1, dyW cyI At T1, dyW cyI Ad D]) H := hP
      have hD : va_D A9 (cat [[(h, .inr (5, [.ref (Ad 0), .ref (At 0), .ref (As 0), .ref (Ac 0), .ref (L 6 0)]))], shW cyI As S1, dyW cyI At T1, dyW cyI Ad D]) := hD
      refine gSl (gs := [[(h, .inr (5, [.ref (Ad 0), .ref (At 0), .ref (As 0), .ref (Ac 0), .ref (L 6 0)]))], shW cyI As S1, dyW cyI At T1, dyW cyI Ad D]) (As := [.long (mixI y ((0 : Int32))), .int (nI (rSz D.2.1 D.2.2.2.2.2.1 (nI (i))))]) (rest := []) ⟨hx, hb, hml, hown, hts⟩ (c_X5_mix l G cyI cyO (mixI y ((0 : Int32))) (nI (rSz D.2.1 D.2.2.2.2.2.1 (nI (i))))) (va_cwS 2 hts gX5_mixMilkmen_X5_mix rfl rfl rfl (by decide +kernel) ⟨Nat.le_of_ble_eq_true rfl, Nat.le_of_ble_eq_true rfl⟩) hK hP hD hS hA [] rfl rfl rfl rfl hl.1 rfl (Nat.le_of_ble_eq_true rfl) dX5_mixMilkmen_44 ⟨Nat.le_refl _, Nat.le_refl _⟩ (fun H locs hP hD hS => ?_)
      have hP : va_P G vwCl (cat [[(h, .inr (5, [.ref (Ad 0), .ref (At 0), .ref (As 0), .ref (Ac 0), .ref (L 6 0)]))], shW cyI As S1, dyW cyI At T1, dyW cyI Ad D]) H := hP
      have hD : va_D A9 (cat [[(h, .inr (5, [.ref (Ad 0), .ref (At 0), .ref (As 0), .ref (Ac 0), .ref (L 6 0)]))], shW cyI As S1, dyW cyI At T1, dyW cyI Ad D]) := hD
      refine lv_lstore_n (lv' := [(3, .long (mixI (mixI y ((0 : Int32))) (nI (rSz D.2.1 D.2.2.2.2.2.1 (nI (i)))))), (5, .int (nI (i))), (0, .ref (h)), (1, .long (x))]) hx hb dX5_mixMilkmen_47 rfl hl (by decide) rfl (fun ls hl => ?_)
      refine lv_lload_n hx hb dX5_mixMilkmen_48 rfl (lv_at hl 0 rfl) ?_
      refine lv_aload_n hx hb dX5_mixMilkmen_49 rfl (lv_at hl 2 rfl) ?_
      refine va_get (v := .ref (Ad 0)) (C := RX5) (T := TX5) (N := 5) hx hb hts hinX5 hown hK hP 0 rfl rfl 0 (by decide) hf10 (fun _ h9 => h9) rfl dX5_mixMilkmen_50 ?_
      refine lv_iload hx hb dX5_mixMilkmen_53 (lv_at hl 1 rfl) ?_
      refine gVi (gs := [[(h, .inr (5, [.ref (Ad 0), .ref (At 0), .ref (As 0), .ref (Ac 0), .ref (L 6 0)]))], shW cyI As S1, dyW cyI At T1, dyW cyI Ad D]) (As := [.int (nI (i))]) (rest := [.long (mixI (mixI y ((0 : Int32))) (nI (rSz D.2.1 D.2.2.2.2.2.1 (nI (i)))))]) ⟨hx, hb, hml, hown, hts⟩ (c_X1_roundLoad l G cyI cyO Ad D (nI (i)) (by omega)) (cwV 1 hts gX5_mixMilkmen_X1_roundLoad rfl rfl rfl (by decide +kernel) ⟨Nat.le_of_ble_eq_true rfl, Nat.le_of_ble_eq_true rfl⟩) hK hP hD hS hA [3] rfl rfl rfl 0 1 rfl rfl rfl hl.1 rfl (Nat.le_of_ble_eq_true rfl) dX5_mixMilkmen_55 ⟨Nat.le_refl _, Nat.le_refl _⟩ (fun H locs hP hD hS => ?_)
      have hP : va_P G vwCl (cat [[(h, .inr (5, [.ref (Ad 0), .ref (At 0), .ref (As 0), .ref (Ac 0), .ref (L 6 0)]))], shW cyI As S1, dyW cyI At T1, dyW cyI Ad D]) H := hP
      have hD : va_D A9 (cat [[(h, .inr (5, [.ref (Ad 0), .ref (At 0), .ref (As 0), .ref (Ac 0), .ref (L 6 0)]))], shW cyI As S1, dyW cyI At T1, dyW cyI Ad D]) := hD
      refine gSl (gs := [[(h, .inr (5, [.ref (Ad 0), .ref (At 0), .ref (As 0), .ref (Ac 0), .ref (L 6 0)]))], shW cyI As S1, dyW cyI At T1, dyW cyI Ad D]) (As := [.long (mixI (mixI y ((0 : Int32))) (nI (rSz D.2.1 D.2.2.2.2.2.1 (nI (i))))), .int (rLd D.1 D.2.1 D.2.2.2.2.2.1 (nI (i)))]) (rest := []) ⟨hx, hb, hml, hown, hts⟩ (c_X5_mix l G cyI cyO (mixI (mixI y ((0 : Int32))) (nI (rSz D.2.1 D.2.2.2.2.2.1 (nI (i))))) (rLd D.1 D.2.1 D.2.2.2.2.2.1 (nI (i)))) (va_cwS 2 hts gX5_mixMilkmen_X5_mix rfl rfl rfl (by decide +kernel) ⟨Nat.le_of_ble_eq_true rfl, Nat.le_of_ble_eq_true rfl⟩) hK hP hD hS hA [] rfl rfl rfl rfl hl.1 rfl (Nat.le_of_ble_eq_true rfl) dX5_mixMilkmen_58 ⟨Nat.le_refl _, Nat.le_refl _⟩ (fun H locs hP hD hS => ?_)
      have hP : va_P G vwCl (cat [[(h, .inr (5, [.ref (Ad 0), .ref (At 0), .ref (As 0), .ref (Ac 0), .ref (L 6 0)]))], shW cyI As S1, dyW cyI At T1, dyW cyI Ad D]) H := hP
      have hD : va_D A9 (cat [[(h, .inr (5, [.ref (Ad 0), .ref (At 0), .ref (As 0), .ref (Ac 0), .ref (L 6 0)]))], shW cyI As S1, dyW cyI At T1, dyW cyI Ad D]) := hD
      refine lv_lstore_n (lv' := [(3, .long (mixI (mixI (mixI y ((0 : Int32))) (nI (rSz D.2.1 D.2.2.2.2.2.1 (nI (i))))) (rLd D.1 D.2.1 D.2.2.2.2.2.1 (nI (i))))), (5, .int (nI (i))), (0, .ref (h)), (1, .long (x))]) hx hb dX5_mixMilkmen_61 rfl hl (by decide) rfl (fun ls hl => ?_)
      refine lv_lload_n hx hb dX5_mixMilkmen_62 rfl (lv_at hl 0 rfl) ?_
      refine lv_aload_n hx hb dX5_mixMilkmen_63 rfl (lv_at hl 2 rfl) ?_
      refine lv_iload hx hb dX5_mixMilkmen_64 (lv_at hl 1 rfl) ?_
      refine gVi (gs := [[(h, .inr (5, [.ref (Ad 0), .ref (At 0), .ref (As 0), .ref (Ac 0), .ref (L 6 0)]))], shW cyI As S1, dyW cyI At T1, dyW cyI Ad D]) (As := [.int (nI (i))]) (rest := [.long (mixI (mixI (mixI y ((0 : Int32))) (nI (rSz D.2.1 D.2.2.2.2.2.1 (nI (i))))) (rLd D.1 D.2.1 D.2.2.2.2.2.1 (nI (i))))]) ⟨hx, hb, hml, hown, hts⟩ (c_X5_changesIfSwitched l G cyI cyO h Ad At As Ac L S1 T1 D i (by omega) (by omega)) (cwV 1 hts gX5_mixMilkmen_X5_changesIfSwitched rfl rfl rfl (by decide +kernel) ⟨Nat.le_of_ble_eq_true rfl, Nat.le_of_ble_eq_true rfl⟩) hK hP hD hS hA [0, 1, 2, 3] rfl rfl rfl 0 5 rfl rfl rfl hl.1 rfl (Nat.le_of_ble_eq_true rfl) dX5_mixMilkmen_66 ⟨Nat.le_refl _, Nat.le_refl _⟩ (fun H locs hP hD hS => ?_)
      have hP : va_P G vwCl (cat [[(h, .inr (5, [.ref (Ad 0), .ref (At 0), .ref (As 0), .ref (Ac 0), .ref (L 6 0)]))], shW cyI As (shOut S1 (dSw T1 D i)), dyW cyI At (dSw T1 D i), dyW cyI Ad D]) H := hP
      have hD : va_D A9 (cat [[(h, .inr (5, [.ref (Ad 0), .ref (At 0), .ref (As 0), .ref (Ac 0), .ref (L 6 0)]))], shW cyI As (shOut S1 (dSw T1 D i)), dyW cyI At (dSw T1 D i), dyW cyI Ad D]) := hD
      refine gSl (gs := [[(h, .inr (5, [.ref (Ad 0), .ref (At 0), .ref (As 0), .ref (Ac 0), .ref (L 6 0)]))], shW cyI As (shOut S1 (dSw T1 D i)), dyW cyI At (dSw T1 D i), dyW cyI Ad D]) (As := [.long (mixI (mixI (mixI y ((0 : Int32))) (nI (rSz D.2.1 D.2.2.2.2.2.1 (nI (i))))) (rLd D.1 D.2.1 D.2.2.2.2.2.1 (nI (i)))), .int (shRes S1 (dSw T1 D i))]) (rest := []) ⟨hx, hb, hml, hown, hts⟩ (c_X5_mix l G cyI cyO (mixI (mixI (mixI y ((0 : Int32))) (nI (rSz D.2.1 D.2.2.2.2.2.1 (nI (i))))) (rLd D.1 D.2.1 D.2.2.2.2.2.1 (nI (i)))) (shRes S1 (dSw T1 D i))) (va_cwS 2 hts gX5_mixMilkmen_X5_mix rfl rfl rfl (by decide +kernel) ⟨Nat.le_of_ble_eq_true rfl, Nat.le_of_ble_eq_true rfl⟩) hK hP hD hS hA [] rfl rfl rfl rfl hl.1 rfl (Nat.le_of_ble_eq_true rfl) dX5_mixMilkmen_69 ⟨Nat.le_refl _, Nat.le_refl _⟩ (fun H locs hP hD hS => ?_)
      have hP : va_P G vwCl (cat [[(h, .inr (5, [.ref (Ad 0), .ref (At 0), .ref (As 0), .ref (Ac 0), .ref (L 6 0)]))], shW cyI As (shOut S1 (dSw T1 D i)), dyW cyI At (dSw T1 D i), dyW cyI Ad D]) H := hP
      have hD : va_D A9 (cat [[(h, .inr (5, [.ref (Ad 0), .ref (At 0), .ref (As 0), .ref (Ac 0), .ref (L 6 0)]))], shW cyI As (shOut S1 (dSw T1 D i)), dyW cyI At (dSw T1 D i), dyW cyI Ad D]) := hD
      refine lv_lstore_n (lv' := [(3, .long (mixI (mixI (mixI (mixI y ((0 : Int32))) (nI (rSz D.2.1 D.2.2.2.2.2.1 (nI (i))))) (rLd D.1 D.2.1 D.2.2.2.2.2.1 (nI (i)))) (shRes S1 (dSw T1 D i)))), (5, .int (nI (i))), (0, .ref (h)), (1, .long (x))]) hx hb dX5_mixMilkmen_72 rfl hl (by decide) rfl (fun ls hl => ?_)
      refine lv_iinc (v := nI (i + 1)) (lv' := [(5, .int (nI (i + 1))), (3, .long (mixI (mixI (mixI (mixI y ((0 : Int32))) (nI (rSz D.2.1 D.2.2.2.2.2.1 (nI (i))))) (rLd D.1 D.2.1 D.2.2.2.2.2.1 (nI (i)))) (shRes S1 (dSw T1 D i)))), (0, .ref (h)), (1, .long (x))]) hx hb dX5_mixMilkmen_73 hl (k := 1) rfl (nI_add _ _) (by decide) rfl (fun ls hl => ?_)
      refine lv_goto (tgt := 5) hx hb dX5_mixMilkmen_76 (by decide) ?_
      exact ih_5 (i + 1, mixI (mixI (mixI (mixI y ((0 : Int32))) (nI (rSz D.2.1 D.2.2.2.2.2.1 (nI (i))))) (rLd D.1 D.2.1 D.2.2.2.2.2.1 (nI (i)))) (shRes S1 (dSw T1 D i)), shOut S1 (dSw T1 D i), dSw T1 D i) (by show (6 - (i + 1)) < (6 - i); omega) _ _ _ ⟨(show (i + 1) ≤ 6 from by omega), (show ((mixI (mixI (mixI (mixI y ((0 : Int32))) (nI (rSz D.2.1 D.2.2.2.2.2.1 (nI (i))))) (rLd D.1 D.2.1 D.2.2.2.2.2.1 (nI (i)))) (shRes S1 (dSw T1 D i))), (shOut S1 (dSw T1 D i)), (dSw T1 D i)) = itr (i + 1) (mmStep D) (x, S, T) from by show _ = mmStep D i (itr i _ _); rw [← he]; simp [mmStep, bI, c_9, c_22]), hP, hD, hS, lv_sub hl [0, 1, 2, 3] rfl⟩
    · have c_22 : (decide (D.2.2.1 i = 1)) = true := bI_nz.mp c_22
      have c_22 : (D.2.2.1 i = 1) := of_decide_eq_true c_22
      refine lv_iconst (v := (1 : Int32)) hx hb dX5_mixMilkmen_25 (by decide) ?_
      refine lv_goto (tgt := 30) hx hb dX5_mixMilkmen_26 (by decide) ?_
      refine gSl (gs := [[(h, .inr (5, [.ref (Ad 0), .ref (At 0), .ref (As 0), .ref (Ac 0), .ref (L 6 0)]))], shW cyI As S1, dyW cyI At T1, dyW cyI Ad D]) (As := [.long (y), .int ((1 : Int32))]) (rest := []) ⟨hx, hb, hml, hown, hts⟩ (c_X5_mix l G cyI cyO y ((1 : Int32))) (va_cwS 2 hts gX5_mixMilkmen_X5_mix rfl rfl rfl (by decide +kernel) ⟨Nat.le_of_ble_eq_true rfl, Nat.le_of_ble_eq_true rfl⟩) hK hP hD hS hA [] rfl rfl rfl rfl hl.1 rfl (Nat.le_of_ble_eq_true rfl) dX5_mixMilkmen_30 ⟨Nat.le_refl _, Nat.le_refl _⟩ (fun H locs hP hD hS => ?_)
      have hP : va_P G vwCl (cat [[(h, .inr (5, [.ref (Ad 0), .ref (At 0), .ref (As 0), .ref (Ac 0), .ref (L 6 0)]))], shW cyI As S1, dyW cyI At T1, dyW cyI Ad D]) H := hP
      have hD : va_D A9 (cat [[(h, .inr (5, [.ref (Ad 0), .ref (At 0), .ref (As 0), .ref (Ac 0), .ref (L 6 0)]))], shW cyI As S1, dyW cyI At T1, dyW cyI Ad D]) := hD
      refine lv_lstore_n (lv' := [(3, .long (mixI y ((1 : Int32)))), (5, .int (nI (i))), (0, .ref (h)), (1, .long (x))]) hx hb dX5_mixMilkmen_33 rfl hl (by decide) rfl (fun ls hl => ?_)
      refine lv_lload_n hx hb dX5_mixMilkmen_34 rfl (lv_at hl 0 rfl) ?_
      refine lv_aload_n hx hb dX5_mixMilkmen_35 rfl (lv_at hl 2 rfl) ?_
      refine va_get (v := .ref (Ad 0)) (C := RX5) (T := TX5) (N := 5) hx hb hts hinX5 hown hK hP 0 rfl rfl 0 (by decide) hf10 (fun _ h9 => h9) rfl dX5_mixMilkmen_36 ?_
      refine lv_iload hx hb dX5_mixMilkmen_39 (lv_at hl 1 rfl) ?_
      refine gVi (gs := [[(h, .inr (5, [.ref (Ad 0), .ref (At 0), .ref (As 0), .ref (Ac 0), .ref (L 6 0)]))], shW cyI As S1, dyW cyI At T1, dyW cyI Ad D]) (As := [.int (nI (i))]) (rest := [.long (mixI y ((1 : Int32)))]) ⟨hx, hb, hml, hown, hts⟩ (c_X1_roundSize l G cyI cyO Ad D (nI (i)) (by omega)) (cwV 1 hts gX5_mixMilkmen_X1_roundSize rfl rfl rfl (by decide +kernel) ⟨Nat.le_of_ble_eq_true rfl, Nat.le_of_ble_eq_true rfl⟩) hK hP hD hS hA [3] rfl rfl rfl 0 1 rfl rfl rfl hl.1 rfl (Nat.le_of_ble_eq_true rfl) dX5_mixMilkmen_41 ⟨Nat.le_refl _, Nat.le_refl _⟩ (fun H locs hP hD hS => ?_)
      have hP : va_P G vwCl (cat [[(h, .inr (5, [.ref (Ad 0), .ref (At 0), .ref (As 0), .ref (Ac 0), .ref (L 6 0)]))], shW cyI As S1, dyW cyI At T1, dyW cyI Ad D]) H := hP
      have hD : va_D A9 (cat [[(h, .inr (5, [.ref (Ad 0), .ref (At 0), .ref (As 0), .ref (Ac 0), .ref (L 6 0)]))], shW cyI As S1, dyW cyI At T1, dyW cyI Ad D]) := hD
      refine gSl (gs := [[(h, .inr (5, [.ref (Ad 0), .ref (At 0), .ref (As 0), .ref (Ac 0), .ref (L 6 0)]))], shW cyI As S1, dyW cyI At T1, dyW cyI Ad D]) (As := [.long (mixI y ((1 : Int32))), .int (nI (rSz D.2.1 D.2.2.2.2.2.1 (nI (i))))]) (rest := []) ⟨hx, hb, hml, hown, hts⟩ (c_X5_mix l G cyI cyO (mixI y ((1 : Int32))) (nI (rSz D.2.1 D.2.2.2.2.2.1 (nI (i))))) (va_cwS 2 hts gX5_mixMilkmen_X5_mix rfl rfl rfl (by decide +kernel) ⟨Nat.le_of_ble_eq_true rfl, Nat.le_of_ble_eq_true rfl⟩) hK hP hD hS hA [] rfl rfl rfl rfl hl.1 rfl (Nat.le_of_ble_eq_true rfl) dX5_mixMilkmen_44 ⟨Nat.le_refl _, Nat.le_refl _⟩ (fun H locs hP hD hS => ?_)
      have hP : va_P G vwCl (cat [[(h, .inr (5, [.ref (Ad 0), .ref (At 0), .ref (As 0), .ref (Ac 0), .ref (L 6 0)]))], shW cyI As S1, dyW cyI At T1, dyW cyI Ad D]) H := hP
      have hD : va_D A9 (cat [[(h, .inr (5, [.ref (Ad 0), .ref (At 0), .ref (As 0), .ref (Ac 0), .ref (L 6 0)]))], shW cyI As S1, dyW cyI At T1, dyW cyI Ad D]) := hD
      refine lv_lstore_n (lv' := [(3, .long (mixI (mixI y ((1 : Int32))) (nI (rSz D.2.1 D.2.2.2.2.2.1 (nI (i)))))), (5, .int (nI (i))), (0, .ref (h)), (1, .long (x))]) hx hb dX5_mixMilkmen_47 rfl hl (by decide) rfl (fun ls hl => ?_)
      refine lv_lload_n hx hb dX5_mixMilkmen_48 rfl (lv_at hl 0 rfl) ?_
      refine lv_aload_n hx hb dX5_mixMilkmen_49 rfl (lv_at hl 2 rfl) ?_
      refine va_get (v := .ref (Ad 0)) (C := RX5) (T := TX5) (N := 5) hx hb hts hinX5 hown hK hP 0 rfl rfl 0 (by decide) hf10 (fun _ h9 => h9) rfl dX5_mixMilkmen_50 ?_
      refine lv_iload hx hb dX5_mixMilkmen_53 (lv_at hl 1 rfl) ?_
      refine gVi (gs := [[(h, .inr (5, [.ref (Ad 0), .ref (At 0), .ref (As 0), .ref (Ac 0), .ref (L 6 0)]))], shW cyI As S1, dyW cyI At T1, dyW cyI Ad D]) (As := [.int (nI (i))]) (rest := [.long (mixI (mixI y ((1 : Int32))) (nI (rSz D.2.1 D.2.2.2.2.2.1 (nI (i)))))]) ⟨hx, hb, hml, hown, hts⟩ (c_X1_roundLoad l G cyI cyO Ad D (nI (i)) (by omega)) (cwV 1 hts gX5_mixMilkmen_X1_roundLoad rfl rfl rfl (by decide +kernel) ⟨Nat.le_of_ble_eq_true rfl, Nat.le_of_ble_eq_true rfl⟩) hK hP hD hS hA [3] rfl rfl rfl 0 1 rfl rfl rfl hl.1 rfl (Nat.le_of_ble_eq_true rfl) dX5_mixMilkmen_55 ⟨Nat.le_refl _, Nat.le_refl _⟩ (fun H locs hP hD hS => ?_)
      have hP : va_P G vwCl (cat [[(h, .inr (5, [.ref (Ad 0), .ref (At 0), .ref (As 0), .ref (Ac 0), .ref (L 6 0)]))], shW cyI As S1, dyW cyI At T1, dyW cyI Ad D]) H := hP
      have hD : va_D A9 (cat [[(h, .inr (5, [.ref (Ad 0), .ref (At 0), .ref (As 0), .ref (Ac 0), .ref (L 6 0)]))], shW cyI As S1, dyW cyI At T1, dyW cyI Ad D]) := hD
      refine gSl (gs := [[(h, .inr (5, [.ref (Ad 0), .ref (At 0), .ref (As 0), .ref (Ac 0), .ref (L 6 0)]))], shW cyI As S1, dyW cyI At T1, dyW cyI Ad D]) (As := [.long (mixI (mixI y ((1 : Int32))) (nI (rSz D.2.1 D.2.2.2.2.2.1 (nI (i))))), .int (rLd D.1 D.2.1 D.2.2.2.2.2.1 (nI (i)))]) (rest := []) ⟨hx, hb, hml, hown, hts⟩ (c_X5_mix l G cyI cyO (mixI (mixI y ((1 : Int32))) (nI (rSz D.2.1 D.2.2.2.2.2.1 (nI (i))))) (rLd D.1 D.2.1 D.2.2.2.2.2.1 (nI (i)))) (va_cwS 2 hts gX5_mixMilkmen_X5_mix rfl rfl rfl (by decide +kernel) ⟨Nat.le_of_ble_eq_true rfl, Nat.le_of_ble_eq_true rfl⟩) hK hP hD hS hA [] rfl rfl rfl rfl hl.1 rfl (Nat.le_of_ble_eq_true rfl) dX5_mixMilkmen_58 ⟨Nat.le_refl _, Nat.le_refl _⟩ (fun H locs hP hD hS => ?_)
      have hP : va_P G vwCl (cat [[(h, .inr (5, [.ref (Ad 0), .ref (At 0), .ref (As 0), .ref (Ac 0), .ref (L 6 0)]))], shW cyI As S1, dyW cyI At T1, dyW cyI Ad D]) H := hP
      have hD : va_D A9 (cat [[(h, .inr (5, [.ref (Ad 0), .ref (At 0), .ref (As 0), .ref (Ac 0), .ref (L 6 0)]))], shW cyI As S1, dyW cyI At T1, dyW cyI Ad D]) := hD
      refine lv_lstore_n (lv' := [(3, .long (mixI (mixI (mixI y ((1 : Int32))) (nI (rSz D.2.1 D.2.2.2.2.2.1 (nI (i))))) (rLd D.1 D.2.1 D.2.2.2.2.2.1 (nI (i))))), (5, .int (nI (i))), (0, .ref (h)), (1, .long (x))]) hx hb dX5_mixMilkmen_61 rfl hl (by decide) rfl (fun ls hl => ?_)
      refine lv_lload_n hx hb dX5_mixMilkmen_62 rfl (lv_at hl 0 rfl) ?_
      refine lv_aload_n hx hb dX5_mixMilkmen_63 rfl (lv_at hl 2 rfl) ?_
      refine lv_iload hx hb dX5_mixMilkmen_64 (lv_at hl 1 rfl) ?_
      refine gVi (gs := [[(h, .inr (5, [.ref (Ad 0), .ref (At 0), .ref (As 0), .ref (Ac 0), .ref (L 6 0)]))], shW cyI As S1, dyW cyI At T1, dyW cyI Ad D]) (As := [.int (nI (i))]) (rest := [.long (mixI (mixI (mixI y ((1 : Int32))) (nI (rSz D.2.1 D.2.2.2.2.2.1 (nI (i))))) (rLd D.1 D.2.1 D.2.2.2.2.2.1 (nI (i))))]) ⟨hx, hb, hml, hown, hts⟩ (c_X5_changesIfSwitched l G cyI cyO h Ad At As Ac L S1 T1 D i (by omega) (by omega)) (cwV 1 hts gX5_mixMilkmen_X5_changesIfSwitched rfl rfl rfl (by decide +kernel) ⟨Nat.le_of_ble_eq_true rfl, Nat.le_of_ble_eq_true rfl⟩) hK hP hD hS hA [0, 1, 2, 3] rfl rfl rfl 0 5 rfl rfl rfl hl.1 rfl (Nat.le_of_ble_eq_true rfl) dX5_mixMilkmen_66 ⟨Nat.le_refl _, Nat.le_refl _⟩ (fun H locs hP hD hS => ?_)
      have hP : va_P G vwCl (cat [[(h, .inr (5, [.ref (Ad 0), .ref (At 0), .ref (As 0), .ref (Ac 0), .ref (L 6 0)]))], shW cyI As (shOut S1 (dSw T1 D i)), dyW cyI At (dSw T1 D i), dyW cyI Ad D]) H := hP
      have hD : va_D A9 (cat [[(h, .inr (5, [.ref (Ad 0), .ref (At 0), .ref (As 0), .ref (Ac 0), .ref (L 6 0)]))], shW cyI As (shOut S1 (dSw T1 D i)), dyW cyI At (dSw T1 D i), dyW cyI Ad D]) := hD
      refine gSl (gs := [[(h, .inr (5, [.ref (Ad 0), .ref (At 0), .ref (As 0), .ref (Ac 0), .ref (L 6 0)]))], shW cyI As (shOut S1 (dSw T1 D i)), dyW cyI At (dSw T1 D i), dyW cyI Ad D]) (As := [.long (mixI (mixI (mixI y ((1 : Int32))) (nI (rSz D.2.1 D.2.2.2.2.2.1 (nI (i))))) (rLd D.1 D.2.1 D.2.2.2.2.2.1 (nI (i)))), .int (shRes S1 (dSw T1 D i))]) (rest := []) ⟨hx, hb, hml, hown, hts⟩ (c_X5_mix l G cyI cyO (mixI (mixI (mixI y ((1 : Int32))) (nI (rSz D.2.1 D.2.2.2.2.2.1 (nI (i))))) (rLd D.1 D.2.1 D.2.2.2.2.2.1 (nI (i)))) (shRes S1 (dSw T1 D i))) (va_cwS 2 hts gX5_mixMilkmen_X5_mix rfl rfl rfl (by decide +kernel) ⟨Nat.le_of_ble_eq_true rfl, Nat.le_of_ble_eq_true rfl⟩) hK hP hD hS hA [] rfl rfl rfl rfl hl.1 rfl (Nat.le_of_ble_eq_true rfl) dX5_mixMilkmen_69 ⟨Nat.le_refl _, Nat.le_refl _⟩ (fun H locs hP hD hS => ?_)
      have hP : va_P G vwCl (cat [[(h, .inr (5, [.ref (Ad 0), .ref (At 0), .ref (As 0), .ref (Ac 0), .ref (L 6 0)]))], shW cyI As (shOut S1 (dSw T1 D i)), dyW cyI At (dSw T1 D i), dyW cyI Ad D]) H := hP
      have hD : va_D A9 (cat [[(h, .inr (5, [.ref (Ad 0), .ref (At 0), .ref (As 0), .ref (Ac 0), .ref (L 6 0)]))], shW cyI As (shOut S1 (dSw T1 D i)), dyW cyI At (dSw T1 D i), dyW cyI Ad D]) := hD
      refine lv_lstore_n (lv' := [(3, .long (mixI (mixI (mixI (mixI y ((1 : Int32))) (nI (rSz D.2.1 D.2.2.2.2.2.1 (nI (i))))) (rLd D.1 D.2.1 D.2.2.2.2.2.1 (nI (i)))) (shRes S1 (dSw T1 D i)))), (5, .int (nI (i))), (0, .ref (h)), (1, .long (x))]) hx hb dX5_mixMilkmen_72 rfl hl (by decide) rfl (fun ls hl => ?_)
      refine lv_iinc (v := nI (i + 1)) (lv' := [(5, .int (nI (i + 1))), (3, .long (mixI (mixI (mixI (mixI y ((1 : Int32))) (nI (rSz D.2.1 D.2.2.2.2.2.1 (nI (i))))) (rLd D.1 D.2.1 D.2.2.2.2.2.1 (nI (i)))) (shRes S1 (dSw T1 D i)))), (0, .ref (h)), (1, .long (x))]) hx hb dX5_mixMilkmen_73 hl (k := 1) rfl (nI_add _ _) (by decide) rfl (fun ls hl => ?_)
      refine lv_goto (tgt := 5) hx hb dX5_mixMilkmen_76 (by decide) ?_
      exact ih_5 (i + 1, mixI (mixI (mixI (mixI y ((1 : Int32))) (nI (rSz D.2.1 D.2.2.2.2.2.1 (nI (i))))) (rLd D.1 D.2.1 D.2.2.2.2.2.1 (nI (i)))) (shRes S1 (dSw T1 D i)), shOut S1 (dSw T1 D i), dSw T1 D i) (by show (6 - (i + 1)) < (6 - i); omega) _ _ _ ⟨(show (i + 1) ≤ 6 from by omega), (show ((mixI (mixI (mixI (mixI y ((1 : Int32))) (nI (rSz D.2.1 D.2.2.2.2.2.1 (nI (i))))) (rLd D.1 D.2.1 D.2.2.2.2.2.1 (nI (i)))) (shRes S1 (dSw T1 D i))), (shOut S1 (dSw T1 D i)), (dSw T1 D i)) = itr (i + 1) (mmStep D) (x, S, T) from by show _ = mmStep D i (itr i _ _); rw [← he]; simp [mmStep, bI, c_9, c_22]), hP, hD, hS, lv_sub hl [0, 1, 2, 3] rfl⟩
abbrev rm_X5_mixDoorsteps : Room := { frames := 4, cells := 0, slots := 0, locals := 92 }
set_option maxHeartbeats 4000000 in
set_option maxRecDepth 100000 in
theorem c_X5_mixDoorsteps (l : Launch) (G : va_G) (cyI cyO : ClassId) (h : Nat) (Ad At As Ac : Nat → Nat) (L : Nat → Nat → Nat) (S : SS) (D : DS) (x : Int64) (hn : D.2.2.2.2.2.1 ≤ 20) : CL l G (TY cyI cyO) yX5_mixDoorsteps wsX5_mixDoorsteps rm_X5_mixDoorsteps [.ref (h), .long (x)] [[(h, .inr (5, [.ref (Ad 0), .ref (At 0), .ref (As 0), .ref (Ac 0), .ref (L 6 0)]))], shW cyI As S, dyW cyI Ad D] (mdAll (shOut S D) D x) [[(h, .inr (5, [.ref (Ad 0), .ref (At 0), .ref (As 0), .ref (Ac 0), .ref (L 6 0)]))], shW cyI As (shOut S D), dyW cyI Ad D] := by
  refine wk_L (cc := cX5_mixDoorsteps) (maxL := 6) (ret := (some .long)) (by decide) rfl (Nat.le_of_ble_eq_true rfl) ?_
  intro p9 e9 s9 m9 b9 t9 c9 A9 ls hx hb hr hts hown hlocks hml hK hA hD hP hl hS hnm
  have hl : lv_has ls 6 [(0, .ref (h)), (1, .long (x))] := hl
  have hinX5 : ∀ w ∈ wsX50, w ∈ wsX5_mixDoorsteps := by decide +kernel
  have hf10 := hts (.fieldLink RX5 10 "DoorstepRounds" "dairy" "LDoorstepRounds$Dairy;") (by decide +kernel)
  have hf22 := hts (.fieldLink RX5 22 "DoorstepRounds" "sharing" "LDoorstepRounds$Sharing;") (by decide +kernel)
  refine lv_lload_n hx hb dX5_mixDoorsteps_0 rfl (lv_at hl 1 rfl) ?_
  refine lv_lstore_n (lv' := [(3, .long (x)), (0, .ref (h)), (1, .long (x))]) hx hb dX5_mixDoorsteps_1 rfl hl (by decide) rfl (fun ls hl => ?_)
  refine lv_aload_n hx hb dX5_mixDoorsteps_2 rfl (lv_at hl 1 rfl) ?_
  refine va_get (v := .ref (As 0)) (C := RX5) (T := TX5) (N := 5) hx hb hts hinX5 hown hK hP 0 rfl rfl 2 (by decide) hf22 (fun _ h9 => h9) rfl dX5_mixDoorsteps_3 ?_
  refine lv_aload_n hx hb dX5_mixDoorsteps_6 rfl (lv_at hl 1 rfl) ?_
  refine va_get (v := .ref (Ad 0)) (C := RX5) (T := TX5) (N := 5) hx hb hts hinX5 hown hK hP 0 rfl rfl 0 (by decide) hf10 (fun _ h9 => h9) rfl dX5_mixDoorsteps_7 ?_
  refine gVi (gs := [[(h, .inr (5, [.ref (Ad 0), .ref (At 0), .ref (As 0), .ref (Ac 0), .ref (L 6 0)]))], shW cyI As S, dyW cyI Ad D]) (As := [.ref (Ad 0)]) (rest := []) ⟨hx, hb, hml, hown, hts⟩ (c_X4_shareOut l G cyI cyO As Ad S D (by omega)) (cwV 1 hts gX5_mixDoorsteps_X4_shareOut rfl rfl rfl (by decide +kernel) ⟨Nat.le_of_ble_eq_true rfl, Nat.le_of_ble_eq_true rfl⟩) hK hP hD hS hA [1, 2] rfl rfl rfl 0 4 rfl rfl rfl hl.1 rfl (Nat.le_of_ble_eq_true rfl) dX5_mixDoorsteps_10 ⟨Nat.le_refl _, Nat.le_refl _⟩ (fun H locs hP hD hS => ?_)
  have hP : va_P G vwCl (cat [[(h, .inr (5, [.ref (Ad 0), .ref (At 0), .ref (As 0), .ref (Ac 0), .ref (L 6 0)]))], shW cyI As (shOut S D), dyW cyI Ad D]) H := hP
  have hD : va_D A9 (cat [[(h, .inr (5, [.ref (Ad 0), .ref (At 0), .ref (As 0), .ref (Ac 0), .ref (L 6 0)]))], shW cyI As (shOut S D), dyW cyI Ad D]) := hD
  refine lv_pop hx hb dX5_mixDoorsteps_13 rfl ?_
  refine lv_iconst (v := (0 : Int32)) hx hb dX5_mixDoorsteps_14 (by decide) ?_
  refine lv_istore (lv' := [(5, .int ((0 : Int32))), (3, .long (x)), (0, .ref (h)), (1, .long (x))]) hx hb dX5_mixDoorsteps_15 hl (by decide) rfl (fun ls hl => ?_)
  refine W_loop (α := Nat × Int64) (I := fun a9 H locs ls => (a9.1 ≤ D.2.2.2.2.2.1) ∧ (a9.2 = itr a9.1 (mdStep (shOut S D) D) x) ∧ va_P G vwCl (cat [[(h, .inr (5, [.ref (Ad 0), .ref (At 0), .ref (As 0), .ref (Ac 0), .ref (L 6 0)]))], shW cyI As (shOut S D), dyW cyI Ad D]) H ∧ va_D A9 (cat [[(h, .inr (5, [.ref (Ad 0), .ref (At 0), .ref (As 0), .ref (Ac 0), .ref (L 6 0)]))], shW cyI As (shOut S D), dyW cyI Ad D]) ∧ va_S A9 s9.heap H locs ∧ lv_has ls 6 [(5, .int (nI (a9.1))), (3, .long (a9.2)), (0, .ref (h)), (1, .long (x))]) (μ := fun a9 => D.2.2.2.2.2.1 - a9.1) (st := fun a9 => []) ?_ (0, x) _ _ _ ⟨(show 0 ≤ D.2.2.2.2.2.1 from by omega), (show x = itr 0 (mdStep (shOut S D) D) x from rfl), hP, hD, hS, lv_sub hl [0, 1, 2, 3] rfl⟩
  intro a9 ih_17 H locs ls hI
  obtain ⟨i, y⟩ := a9
  obtain ⟨hi9, he9, hP9, hD9, hS9, hl9⟩ := hI
  have hi : i ≤ D.2.2.2.2.2.1 := hi9
  have he : y = itr i (mdStep (shOut S D) D) x := he9
  have hP : va_P G vwCl (cat [[(h, .inr (5, [.ref (Ad 0), .ref (At 0), .ref (As 0), .ref (Ac 0), .ref (L 6 0)]))], shW cyI As (shOut S D), dyW cyI Ad D]) H := hP9
  have hD : va_D A9 (cat [[(h, .inr (5, [.ref (Ad 0), .ref (At 0), .ref (As 0), .ref (Ac 0), .ref (L 6 0)]))], shW cyI As (shOut S D), dyW cyI Ad D]) := hD9
  have hS := hS9
  have hl : lv_has ls 6 [(5, .int (nI (i))), (3, .long (y)), (0, .ref (h)), (1, .long (x))] := hl9
  clear hi9 he9 hP9 hD9 hS9 hl9
  refine lv_iload hx hb dX5_mixDoorsteps_17 (lv_at hl 0 rfl) ?_
  refine lv_aload_n hx hb dX5_mixDoorsteps_19 rfl (lv_at hl 2 rfl) ?_
  refine va_get (v := .ref (Ad 0)) (C := RX5) (T := TX5) (N := 5) hx hb hts hinX5 hown hK hP 0 rfl rfl 0 (by decide) hf10 (fun _ h9 => h9) rfl dX5_mixDoorsteps_20 ?_
  refine gVi (gs := [[(h, .inr (5, [.ref (Ad 0), .ref (At 0), .ref (As 0), .ref (Ac 0), .ref (L 6 0)]))], shW cyI As (shOut S D), dyW cyI Ad D]) (As := []) (rest := [.int (nI (i))]) ⟨hx, hb, hml, hown, hts⟩ (c_X1_countDoorsteps l G cyI cyO Ad D) (cwV 0 hts gX5_mixDoorsteps_X1_countDoorsteps rfl rfl rfl (by decide +kernel) ⟨Nat.le_of_ble_eq_true rfl, Nat.le_of_ble_eq_true rfl⟩) hK hP hD hS hA [2] rfl rfl rfl 0 1 rfl rfl rfl hl.1 rfl (Nat.le_of_ble_eq_true rfl) dX5_mixDoorsteps_23 ⟨Nat.le_refl _, Nat.le_refl _⟩ (fun H locs hP hD hS => ?_)
  have hP : va_P G vwCl (cat [[(h, .inr (5, [.ref (Ad 0), .ref (At 0), .ref (As 0), .ref (Ac 0), .ref (L 6 0)]))], shW cyI As (shOut S D), dyW cyI Ad D]) H := hP
  have hD : va_D A9 (cat [[(h, .inr (5, [.ref (Ad 0), .ref (At 0), .ref (As 0), .ref (Ac 0), .ref (L 6 0)]))], shW cyI As (shOut S D), dyW cyI Ad D]) := hD
  refine lv_icmp_ge (tgt := 102) hx hb dX5_mixDoorsteps_26 (by decide) (fun c_26 => ?_) (fun c_26 => ?_)
  · have c_26 : (D.2.2.2.2.2.1) ≤ (i) := (nI_leI (a := D.2.2.2.2.2.1) (b := i) (by omega) (by omega)).mp c_26
    obtain rfl : D.2.2.2.2.2.1 = i := by omega
    refine lv_lload_n hx hb dX5_mixDoorsteps_102 rfl (lv_at hl 1 rfl) ?_
    have hP : va_P G vwCl (cat [[(h, .inr (5, [.ref (Ad 0), .ref (At 0), .ref (As 0), .ref (Ac 0), .ref (L 6 0)]))], shW cyI As (shOut S D), dyW cyI Ad D]) H := hP
    have hD : va_D A9 (cat [[(h, .inr (5, [.ref (Ad 0), .ref (At 0), .ref (As 0), .ref (Ac 0), .ref (L 6 0)]))], shW cyI As (shOut S D), dyW cyI Ad D]) := hD
    exact end_l hx hb hr hlocks hK hP hD hS (he) dX5_mixDoorsteps_103
  · have c_26 : ¬ (D.2.2.2.2.2.1) ≤ (i) := fun h9 => c_26 ((nI_leI (a := D.2.2.2.2.2.1) (b := i) (by omega) (by omega)).mpr h9)
    refine lv_lload_n hx hb dX5_mixDoorsteps_29 rfl (lv_at hl 1 rfl) ?_
    refine lv_aload_n hx hb dX5_mixDoorsteps_30 rfl (lv_at hl 2 rfl) ?_
    refine va_get (v := .ref (Ad 0)) (C := RX5) (T := TX5) (N := 5) hx hb hts hinX5 hown hK hP 0 rfl rfl 0 (by decide) hf10 (fun _ h9 => h9) rfl dX5_mixDoorsteps_31 ?_
    refine lv_iload hx hb dX5_mixDoorsteps_34 (lv_at hl 0 rfl) ?_
    refine gVi (gs := [[(h, .inr (5, [.ref (Ad 0), .ref (At 0), .ref (As 0), .ref (Ac 0), .ref (L 6 0)]))], shW cyI As (shOut S D), dyW cyI Ad D]) (As := [.int (nI (i))]) (rest := [.long (y)]) ⟨hx, hb, hml, hown, hts⟩ (c_X1_pintsOf l G cyI cyO Ad D i (by omega)) (cwV 1 hts gX5_mixDoorsteps_X1_pintsOf rfl rfl rfl (by decide +kernel) ⟨Nat.le_of_ble_eq_true rfl, Nat.le_of_ble_eq_true rfl⟩) hK hP hD hS hA [2] rfl rfl rfl 0 1 rfl rfl rfl hl.1 rfl (Nat.le_of_ble_eq_true rfl) dX5_mixDoorsteps_36 ⟨Nat.le_refl _, Nat.le_refl _⟩ (fun H locs hP hD hS => ?_)
    have hP : va_P G vwCl (cat [[(h, .inr (5, [.ref (Ad 0), .ref (At 0), .ref (As 0), .ref (Ac 0), .ref (L 6 0)]))], shW cyI As (shOut S D), dyW cyI Ad D]) H := hP
    have hD : va_D A9 (cat [[(h, .inr (5, [.ref (Ad 0), .ref (At 0), .ref (As 0), .ref (Ac 0), .ref (L 6 0)]))], shW cyI As (shOut S D), dyW cyI Ad D]) := hD
    refine gSl (gs := [[(h, .inr (5, [.ref (Ad 0), .ref (At 0), .ref (As 0), .ref (Ac 0), .ref (L 6 0)]))], shW cyI As (shOut S D), dyW cyI Ad D]) (As := [.long (y), .int (D.1 i)]) (rest := []) ⟨hx, hb, hml, hown, hts⟩ (c_X5_mix l G cyI cyO y (D.1 i)) (va_cwS 2 hts gX5_mixDoorsteps_X5_mix rfl rfl rfl (by decide +kernel) ⟨Nat.le_of_ble_eq_true rfl, Nat.le_of_ble_eq_true rfl⟩) hK hP hD hS hA [] rfl rfl rfl rfl hl.1 rfl (Nat.le_of_ble_eq_true rfl) dX5_mixDoorsteps_39 ⟨Nat.le_refl _, Nat.le_refl _⟩ (fun H locs hP hD hS => ?_)
    have hP : va_P G vwCl (cat [[(h, .inr (5, [.ref (Ad 0), .ref (At 0), .ref (As 0), .ref (Ac 0), .ref (L 6 0)]))], shW cyI As (shOut S D), dyW cyI Ad D]) H := hP
    have hD : va_D A9 (cat [[(h, .inr (5, [.ref (Ad 0), .ref (At 0), .ref (As 0), .ref (Ac 0), .ref (L 6 0)]))], shW cyI As (shOut S D), dyW cyI Ad D]) := hD
    refine lv_lstore_n (lv' := [(3, .long (mixI y (D.1 i))), (5, .int (nI (i))), (0, .ref (h)), (1, .long (x))]) hx hb dX5_mixDoorsteps_42 rfl hl (by decide) rfl (fun ls hl => ?_)
    refine lv_lload_n hx hb dX5_mixDoorsteps_43 rfl (lv_at hl 0 rfl) ?_
    refine lv_aload_n hx hb dX5_mixDoorsteps_44 rfl (lv_at hl 2 rfl) ?_
    refine va_get (v := .ref (Ad 0)) (C := RX5) (T := TX5) (N := 5) hx hb hts hinX5 hown hK hP 0 rfl rfl 0 (by decide) hf10 (fun _ h9 => h9) rfl dX5_mixDoorsteps_45 ?_
    refine lv_iload hx hb dX5_mixDoorsteps_48 (lv_at hl 1 rfl) ?_
    refine gVi (gs := [[(h, .inr (5, [.ref (Ad 0), .ref (At 0), .ref (As 0), .ref (Ac 0), .ref (L 6 0)]))], shW cyI As (shOut S D), dyW cyI Ad D]) (As := [.int (nI (i))]) (rest := [.long (mixI y (D.1 i))]) ⟨hx, hb, hml, hown, hts⟩ (c_X1_ownerOf l G cyI cyO Ad D i (by omega)) (cwV 1 hts gX5_mixDoorsteps_X1_ownerOf rfl rfl rfl (by decide +kernel) ⟨Nat.le_of_ble_eq_true rfl, Nat.le_of_ble_eq_true rfl⟩) hK hP hD hS hA [2] rfl rfl rfl 0 1 rfl rfl rfl hl.1 rfl (Nat.le_of_ble_eq_true rfl) dX5_mixDoorsteps_50 ⟨Nat.le_refl _, Nat.le_refl _⟩ (fun H locs hP hD hS => ?_)
    have hP : va_P G vwCl (cat [[(h, .inr (5, [.ref (Ad 0), .ref (At 0), .ref (As 0), .ref (Ac 0), .ref (L 6 0)]))], shW cyI As (shOut S D), dyW cyI Ad D]) H := hP
    have hD : va_D A9 (cat [[(h, .inr (5, [.ref (Ad 0), .ref (At 0), .ref (As 0), .ref (Ac 0), .ref (L 6 0)]))], shW cyI As (shOut S D), dyW cyI Ad D]) := hD
    refine gSl (gs := [[(h, .inr (5, [.ref (Ad 0), .ref (At 0), .ref (As 0), .ref (Ac 0), .ref (L 6 0)]))], shW cyI As (shOut S D), dyW cyI Ad D]) (As := [.long (mixI y (D.1 i)), .int (D.2.1 i)]) (rest := []) ⟨hx, hb, hml, hown, hts⟩ (c_X5_mix l G cyI cyO (mixI y (D.1 i)) (D.2.1 i)) (va_cwS 2 hts gX5_mixDoorsteps_X5_mix rfl rfl rfl (by decide +kernel) ⟨Nat.le_of_ble_eq_true rfl, Nat.le_of_ble_eq_true rfl⟩) hK hP hD hS hA [] rfl rfl rfl rfl hl.1 rfl (Nat.le_of_ble_eq_true rfl) dX5_mixDoorsteps_53 ⟨Nat.le_refl _, Nat.le_refl _⟩ (fun H locs hP hD hS => ?_)
    have hP : va_P G vwCl (cat [[(h, .inr (5, [.ref (Ad 0), .ref (At 0), .ref (As 0), .ref (Ac 0), .ref (L 6 0)]))], shW cyI As (shOut S D), dyW cyI Ad D]) H := hP
    have hD : va_D A9 (cat [[(h, .inr (5, [.ref (Ad 0), .ref (At 0), .ref (As 0), .ref (Ac 0), .ref (L 6 0)]))], shW cyI As (shOut S D), dyW cyI Ad D]) := hD
    refine lv_lstore_n (lv' := [(3, .long (mixI (mixI y (D.1 i)) (D.2.1 i))), (5, .int (nI (i))), (0, .ref (h)), (1, .long (x))]) hx hb dX5_mixDoorsteps_56 rfl hl (by decide) rfl (fun ls hl => ?_)
    refine lv_lload_n hx hb dX5_mixDoorsteps_57 rfl (lv_at hl 0 rfl) ?_
    refine lv_aload_n hx hb dX5_mixDoorsteps_58 rfl (lv_at hl 2 rfl) ?_
    refine va_get (v := .ref (Ad 0)) (C := RX5) (T := TX5) (N := 5) hx hb hts hinX5 hown hK hP 0 rfl rfl 0 (by decide) hf10 (fun _ h9 => h9) rfl dX5_mixDoorsteps_59 ?_
    refine lv_iload hx hb dX5_mixDoorsteps_62 (lv_at hl 1 rfl) ?_
    refine gVi (gs := [[(h, .inr (5, [.ref (Ad 0), .ref (At 0), .ref (As 0), .ref (Ac 0), .ref (L 6 0)]))], shW cyI As (shOut S D), dyW cyI Ad D]) (As := [.int (nI (i))]) (rest := [.long (mixI (mixI y (D.1 i)) (D.2.1 i))]) ⟨hx, hb, hml, hown, hts⟩ (c_X1_plannedOwner l G cyI cyO Ad D i (by omega)) (cwV 1 hts gX5_mixDoorsteps_X1_plannedOwner rfl rfl rfl (by decide +kernel) ⟨Nat.le_of_ble_eq_true rfl, Nat.le_of_ble_eq_true rfl⟩) hK hP hD hS hA [2] rfl rfl rfl 0 1 rfl rfl rfl hl.1 rfl (Nat.le_of_ble_eq_true rfl) dX5_mixDoorsteps_64 ⟨Nat.le_refl _, Nat.le_refl _⟩ (fun H locs hP hD hS => ?_)
    have hP : va_P G vwCl (cat [[(h, .inr (5, [.ref (Ad 0), .ref (At 0), .ref (As 0), .ref (Ac 0), .ref (L 6 0)]))], shW cyI As (shOut S D), dyW cyI Ad D]) H := hP
    have hD : va_D A9 (cat [[(h, .inr (5, [.ref (Ad 0), .ref (At 0), .ref (As 0), .ref (Ac 0), .ref (L 6 0)]))], shW cyI As (shOut S D), dyW cyI Ad D]) := hD
    refine gSl (gs := [[(h, .inr (5, [.ref (Ad 0), .ref (At 0), .ref (As 0), .ref (Ac 0), .ref (L 6 0)]))], shW cyI As (shOut S D), dyW cyI Ad D]) (As := [.long (mixI (mixI y (D.1 i)) (D.2.1 i)), .int (dPlan D i)]) (rest := []) ⟨hx, hb, hml, hown, hts⟩ (c_X5_mix l G cyI cyO (mixI (mixI y (D.1 i)) (D.2.1 i)) (dPlan D i)) (va_cwS 2 hts gX5_mixDoorsteps_X5_mix rfl rfl rfl (by decide +kernel) ⟨Nat.le_of_ble_eq_true rfl, Nat.le_of_ble_eq_true rfl⟩) hK hP hD hS hA [] rfl rfl rfl rfl hl.1 rfl (Nat.le_of_ble_eq_true rfl) dX5_mixDoorsteps_67 ⟨Nat.le_refl _, Nat.le_refl _⟩ (fun H locs hP hD hS => ?_)
    have hP : va_P G vwCl (cat [[(h, .inr (5, [.ref (Ad 0), .ref (At 0), .ref (As 0), .ref (Ac 0), .ref (L 6 0)]))], shW cyI As (shOut S D), dyW cyI Ad D]) H := hP
    have hD : va_D A9 (cat [[(h, .inr (5, [.ref (Ad 0), .ref (At 0), .ref (As 0), .ref (Ac 0), .ref (L 6 0)]))], shW cyI As (shOut S D), dyW cyI Ad D]) := hD
    refine lv_lstore_n (lv' := [(3, .long (mixI (mixI (mixI y (D.1 i)) (D.2.1 i)) (dPlan D i))), (5, .int (nI (i))), (0, .ref (h)), (1, .long (x))]) hx hb dX5_mixDoorsteps_70 rfl hl (by decide) rfl (fun ls hl => ?_)
    refine lv_lload_n hx hb dX5_mixDoorsteps_71 rfl (lv_at hl 0 rfl) ?_
    refine lv_aload_n hx hb dX5_mixDoorsteps_72 rfl (lv_at hl 2 rfl) ?_
    refine va_get (v := .ref (As 0)) (C := RX5) (T := TX5) (N := 5) hx hb hts hinX5 hown hK hP 0 rfl rfl 2 (by decide) hf22 (fun _ h9 => h9) rfl dX5_mixDoorsteps_73 ?_
    refine lv_iload hx hb dX5_mixDoorsteps_76 (lv_at hl 1 rfl) ?_
    refine gVi (gs := [[(h, .inr (5, [.ref (Ad 0), .ref (At 0), .ref (As 0), .ref (Ac 0), .ref (L 6 0)]))], shW cyI As (shOut S D), dyW cyI Ad D]) (As := [.int (nI (i))]) (rest := [.long (mixI (mixI (mixI y (D.1 i)) (D.2.1 i)) (dPlan D i))]) ⟨hx, hb, hml, hown, hts⟩ (c_X4_ownerInPlan l G cyI cyO As (shOut S D) i (by omega)) (cwV 1 hts gX5_mixDoorsteps_X4_ownerInPlan rfl rfl rfl (by decide +kernel) ⟨Nat.le_of_ble_eq_true rfl, Nat.le_of_ble_eq_true rfl⟩) hK hP hD hS hA [1] rfl rfl rfl 0 4 rfl rfl rfl hl.1 rfl (Nat.le_of_ble_eq_true rfl) dX5_mixDoorsteps_78 ⟨Nat.le_refl _, Nat.le_refl _⟩ (fun H locs hP hD hS => ?_)
    have hP : va_P G vwCl (cat [[(h, .inr (5, [.ref (Ad 0), .ref (At 0), .ref (As 0), .ref (Ac 0), .ref (L 6 0)]))], shW cyI As (shOut S D), dyW cyI Ad D]) H := hP
    have hD : va_D A9 (cat [[(h, .inr (5, [.ref (Ad 0), .ref (At 0), .ref (As 0), .ref (Ac 0), .ref (L 6 0)]))], shW cyI As (shOut S D), dyW cyI Ad D]) := hD
    refine gSl (gs := [[(h, .inr (5, [.ref (Ad 0), .ref (At 0), .ref (As 0), .ref (Ac 0), .ref (L 6 0)]))], shW cyI As (shOut S D), dyW cyI Ad D]) (As := [.long (mixI (mixI (mixI y (D.1 i)) (D.2.1 i)) (dPlan D i)), .int ((shOut S D).1 i)]) (rest := []) ⟨hx, hb, hml, hown, hts⟩ (c_X5_mix l G cyI cyO (mixI (mixI (mixI y (D.1 i)) (D.2.1 i)) (dPlan D i)) ((shOut S D).1 i)) (va_cwS 2 hts gX5_mixDoorsteps_X5_mix rfl rfl rfl (by decide +kernel) ⟨Nat.le_of_ble_eq_true rfl, Nat.le_of_ble_eq_true rfl⟩) hK hP hD hS hA [] rfl rfl rfl rfl hl.1 rfl (Nat.le_of_ble_eq_true rfl) dX5_mixDoorsteps_81 ⟨Nat.le_refl _, Nat.le_refl _⟩ (fun H locs hP hD hS => ?_)
    have hP : va_P G vwCl (cat [[(h, .inr (5, [.ref (Ad 0), .ref (At 0), .ref (As 0), .ref (Ac 0), .ref (L 6 0)]))], shW cyI As (shOut S D), dyW cyI Ad D]) H := hP
    have hD : va_D A9 (cat [[(h, .inr (5, [.ref (Ad 0), .ref (At 0), .ref (As 0), .ref (Ac 0), .ref (L 6 0)]))], shW cyI As (shOut S D), dyW cyI Ad D]) := hD
    refine lv_lstore_n (lv' := [(3, .long (mixI (mixI (mixI (mixI y (D.1 i)) (D.2.1 i)) (dPlan D i)) ((shOut S D).1 i))), (5, .int (nI (i))), (0, .ref (h)), (1, .long (x))]) hx hb dX5_mixDoorsteps_84 rfl hl (by decide) rfl (fun ls hl => ?_)
    refine lv_lload_n hx hb dX5_mixDoorsteps_85 rfl (lv_at hl 0 rfl) ?_
    refine lv_aload_n hx hb dX5_mixDoorsteps_86 rfl (lv_at hl 2 rfl) ?_
    refine lv_iload hx hb dX5_mixDoorsteps_87 (lv_at hl 1 rfl) ?_
    refine gVi (gs := [[(h, .inr (5, [.ref (Ad 0), .ref (At 0), .ref (As 0), .ref (Ac 0), .ref (L 6 0)]))], shW cyI As (shOut S D), dyW cyI Ad D]) (As := [.int (nI (i))]) (rest := [.long (mixI (mixI (mixI (mixI y (D.1 i)) (D.2.1 i)) (dPlan D i)) ((shOut S D).1 i))]) ⟨hx, hb, hml, hown, hts⟩ (c_X5_reasonInPlan l G cyI cyO h Ad At As Ac L (shOut S D) D i (by omega)) (cwV 1 hts gX5_mixDoorsteps_X5_reasonInPlan rfl rfl rfl (by decide +kernel) ⟨Nat.le_of_ble_eq_true rfl, Nat.le_of_ble_eq_true rfl⟩) hK hP hD hS hA [0, 1, 2] rfl rfl rfl 0 5 rfl rfl rfl hl.1 rfl (Nat.le_of_ble_eq_true rfl) dX5_mixDoorsteps_89 ⟨Nat.le_refl _, Nat.le_refl _⟩ (fun H locs hP hD hS => ?_)
    have hP : va_P G vwCl (cat [[(h, .inr (5, [.ref (Ad 0), .ref (At 0), .ref (As 0), .ref (Ac 0), .ref (L 6 0)]))], shW cyI As (shOut S D), dyW cyI Ad D]) H := hP
    have hD : va_D A9 (cat [[(h, .inr (5, [.ref (Ad 0), .ref (At 0), .ref (As 0), .ref (Ac 0), .ref (L 6 0)]))], shW cyI As (shOut S D), dyW cyI Ad D]) := hD
    refine gSl (gs := [[(h, .inr (5, [.ref (Ad 0), .ref (At 0), .ref (As 0), .ref (Ac 0), .ref (L 6 0)]))], shW cyI As (shOut S D), dyW cyI Ad D]) (As := [.long (mixI (mixI (mixI (mixI y (D.1 i)) (D.2.1 i)) (dPlan D i)) ((shOut S D).1 i)), .int (rsn (shOut S D) D i)]) (rest := []) ⟨hx, hb, hml, hown, hts⟩ (c_X5_mix l G cyI cyO (mixI (mixI (mixI (mixI y (D.1 i)) (D.2.1 i)) (dPlan D i)) ((shOut S D).1 i)) (rsn (shOut S D) D i)) (va_cwS 2 hts gX5_mixDoorsteps_X5_mix rfl rfl rfl (by decide +kernel) ⟨Nat.le_of_ble_eq_true rfl, Nat.le_of_ble_eq_true rfl⟩) hK hP hD hS hA [] rfl rfl rfl rfl hl.1 rfl (Nat.le_of_ble_eq_true rfl) dX5_mixDoorsteps_92 ⟨Nat.le_refl _, Nat.le_refl _⟩ (fun H locs hP hD hS => ?_)
    have hP : va_P G vwCl (cat [[(h, .inr (5, [.ref (Ad 0), .ref (At 0), .ref (As 0), .ref (Ac 0), .ref (L 6 0)]))], shW cyI As (shOut S D), dyW cyI Ad D]) H := hP
    have hD : va_D A9 (cat [[(h, .inr (5, [.ref (Ad 0), .ref (At 0), .ref (As 0), .ref (Ac 0), .ref (L 6 0)]))], shW cyI As (shOut S D), dyW cyI Ad D]) := hD
    refine lv_lstore_n (lv' := [(3, .long (mixI (mixI (mixI (mixI (mixI y (D.1 i)) (D.2.1 i)) (dPlan D i)) ((shOut S D).1 i)) (rsn (shOut S D) D i))), (5, .int (nI (i))), (0, .ref (h)), (1, .long (x))]) hx hb dX5_mixDoorsteps_95 rfl hl (by decide) rfl (fun ls hl => ?_)
    refine lv_iinc (v := nI (i + 1)) (lv' := [(5, .int (nI (i + 1))), (3, .long (mixI (mixI (mixI (mixI (mixI y (D.1 i)) (D.2.1 i)) (dPlan D i)) ((shOut S D).1 i)) (rsn (shOut S D) D i))), (0, .ref (h)), (1, .long (x))]) hx hb dX5_mixDoorsteps_96 hl (k := 1) rfl (nI_add _ _) (by decide) rfl (fun ls hl => ?_)
    refine lv_goto (tgt := 17) hx hb dX5_mixDoorsteps_99 (by decide) ?_
    exact ih_17 (i + 1, mixI (mixI (mixI (mixI (mixI y (D.1 i)) (D.2.1 i)) (dPlan D i)) ((shOut S D).1 i)) (rsn (shOut S D) D i)) (by show (D.2.2.2.2.2.1 - (i + 1)) < (D.2.2.2.2.2.1 - i); omega) _ _ _ ⟨(show (i + 1) ≤ D.2.2.2.2.2.1 from by omega), (show (mixI (mixI (mixI (mixI (mixI y (D.1 i)) (D.2.1 i)) (dPlan D i)) ((shOut S D).1 i)) (rsn (shOut S D) D i)) = itr (i + 1) (mdStep (shOut S D) D) x from by show _ = mdStep _ D i (itr i _ _); rw [← he]; rfl), hP, hD, hS, lv_sub hl [0, 1, 2, 3] rfl⟩
abbrev rm_X5_digest : Room := { frames := 6, cells := 0, slots := 0, locals := 138 }
set_option maxHeartbeats 4000000 in
set_option maxRecDepth 100000 in
theorem c_X5_digest (l : Launch) (G : va_G) (cyI cyO : ClassId) (h : Nat) (Ad At As Ac : Nat → Nat) (L : Nat → Nat → Nat) (S : SS) (T : DS) (D : DS) (hn : D.2.2.2.2.2.1 ≤ 20) (q1 : Int64) (qS : SS) (qT : DS) (hq : mmAll D (dgA S D) (shOut S D) T = (q1, qS, qT)) : CL l G (TY cyI cyO) yX5_digest wsX5_digest rm_X5_digest [.ref (h)] [[(h, .inr (5, [.ref (Ad 0), .ref (At 0), .ref (As 0), .ref (Ac 0), .ref (L 6 0)]))], shW cyI As S, dyW cyI At T, dyW cyI Ad D] (mdAll (shOut qS D) D q1) [[(h, .inr (5, [.ref (Ad 0), .ref (At 0), .ref (As 0), .ref (Ac 0), .ref (L 6 0)]))], shW cyI As (shOut qS D), dyW cyI At qT, dyW cyI Ad D] := by
  refine wk_L (cc := cX5_digest) (maxL := 3) (ret := (some .long)) (by decide) rfl (Nat.le_of_ble_eq_true rfl) ?_
  intro p9 e9 s9 m9 b9 t9 c9 A9 ls hx hb hr hts hown hlocks hml hK hA hD hP hl hS hnm
  have hl : lv_has ls 3 [(0, .ref (h))] := hl
  have hinX5 : ∀ w ∈ wsX50, w ∈ wsX5_digest := by decide +kernel
  have hf10 := hts (.fieldLink RX5 10 "DoorstepRounds" "dairy" "LDoorstepRounds$Dairy;") (by decide +kernel)
  have hf22 := hts (.fieldLink RX5 22 "DoorstepRounds" "sharing" "LDoorstepRounds$Sharing;") (by decide +kernel)
  refine lv_ldc2 (v := ((4756) : Int64)) hx hb hown (hts (.constantLong RX5 215 (4756)) (by decide +kernel)) dX5_digest_0 ?_
  refine lv_lstore_n (lv' := [(1, .long (((4756) : Int64))), (0, .ref (h))]) hx hb dX5_digest_3 rfl hl (by decide) rfl (fun ls hl => ?_)
  refine lv_lload_n hx hb dX5_digest_4 rfl (lv_at hl 0 rfl) ?_
  refine lv_aload_n hx hb dX5_digest_5 rfl (lv_at hl 1 rfl) ?_
  refine va_get (v := .ref (Ad 0)) (C := RX5) (T := TX5) (N := 5) hx hb hts hinX5 hown hK hP 0 rfl rfl 0 (by decide) hf10 (fun _ h9 => h9) rfl dX5_digest_6 ?_
  refine gVi (gs := [[(h, .inr (5, [.ref (Ad 0), .ref (At 0), .ref (As 0), .ref (Ac 0), .ref (L 6 0)]))], shW cyI As S, dyW cyI At T, dyW cyI Ad D]) (As := []) (rest := [.long (((4756) : Int64))]) ⟨hx, hb, hml, hown, hts⟩ (c_X1_countDoorsteps l G cyI cyO Ad D) (cwV 0 hts gX5_digest_X1_countDoorsteps rfl rfl rfl (by decide +kernel) ⟨Nat.le_of_ble_eq_true rfl, Nat.le_of_ble_eq_true rfl⟩) hK hP hD hS hA [3] rfl rfl rfl 0 1 rfl rfl rfl hl.1 rfl (Nat.le_of_ble_eq_true rfl) dX5_digest_9 ⟨Nat.le_refl _, Nat.le_refl _⟩ (fun H locs hP hD hS => ?_)
  have hP : va_P G vwCl (cat [[(h, .inr (5, [.ref (Ad 0), .ref (At 0), .ref (As 0), .ref (Ac 0), .ref (L 6 0)]))], shW cyI As S, dyW cyI At T, dyW cyI Ad D]) H := hP
  have hD : va_D A9 (cat [[(h, .inr (5, [.ref (Ad 0), .ref (At 0), .ref (As 0), .ref (Ac 0), .ref (L 6 0)]))], shW cyI As S, dyW cyI At T, dyW cyI Ad D]) := hD
  refine gSl (gs := [[(h, .inr (5, [.ref (Ad 0), .ref (At 0), .ref (As 0), .ref (Ac 0), .ref (L 6 0)]))], shW cyI As S, dyW cyI At T, dyW cyI Ad D]) (As := [.long (((4756) : Int64)), .int (nI (D.2.2.2.2.2.1))]) (rest := []) ⟨hx, hb, hml, hown, hts⟩ (c_X5_mix l G cyI cyO (((4756) : Int64)) (nI (D.2.2.2.2.2.1))) (va_cwS 2 hts gX5_digest_X5_mix rfl rfl rfl (by decide +kernel) ⟨Nat.le_of_ble_eq_true rfl, Nat.le_of_ble_eq_true rfl⟩) hK hP hD hS hA [] rfl rfl rfl rfl hl.1 rfl (Nat.le_of_ble_eq_true rfl) dX5_digest_12 ⟨Nat.le_refl _, Nat.le_refl _⟩ (fun H locs hP hD hS => ?_)
  have hP : va_P G vwCl (cat [[(h, .inr (5, [.ref (Ad 0), .ref (At 0), .ref (As 0), .ref (Ac 0), .ref (L 6 0)]))], shW cyI As S, dyW cyI At T, dyW cyI Ad D]) H := hP
  have hD : va_D A9 (cat [[(h, .inr (5, [.ref (Ad 0), .ref (At 0), .ref (As 0), .ref (Ac 0), .ref (L 6 0)]))], shW cyI As S, dyW cyI At T, dyW cyI Ad D]) := hD
  refine lv_lstore_n (lv' := [(1, .long (mixI (((4756) : Int64)) (nI (D.2.2.2.2.2.1)))), (0, .ref (h))]) hx hb dX5_digest_15 rfl hl (by decide) rfl (fun ls hl => ?_)
  refine lv_lload_n hx hb dX5_digest_16 rfl (lv_at hl 0 rfl) ?_
  refine lv_aload_n hx hb dX5_digest_17 rfl (lv_at hl 1 rfl) ?_
  refine va_get (v := .ref (Ad 0)) (C := RX5) (T := TX5) (N := 5) hx hb hts hinX5 hown hK hP 0 rfl rfl 0 (by decide) hf10 (fun _ h9 => h9) rfl dX5_digest_18 ?_
  refine gVi (gs := [[(h, .inr (5, [.ref (Ad 0), .ref (At 0), .ref (As 0), .ref (Ac 0), .ref (L 6 0)]))], shW cyI As S, dyW cyI At T, dyW cyI Ad D]) (As := []) (rest := [.long (mixI (((4756) : Int64)) (nI (D.2.2.2.2.2.1)))]) ⟨hx, hb, hml, hown, hts⟩ (c_X1_nextStep l G cyI cyO Ad D) (cwV 0 hts gX5_digest_X1_nextStep rfl rfl rfl (by decide +kernel) ⟨Nat.le_of_ble_eq_true rfl, Nat.le_of_ble_eq_true rfl⟩) hK hP hD hS hA [3] rfl rfl rfl 0 1 rfl rfl rfl hl.1 rfl (Nat.le_of_ble_eq_true rfl) dX5_digest_21 ⟨Nat.le_refl _, Nat.le_refl _⟩ (fun H locs hP hD hS => ?_)
  have hP : va_P G vwCl (cat [[(h, .inr (5, [.ref (Ad 0), .ref (At 0), .ref (As 0), .ref (Ac 0), .ref (L 6 0)]))], shW cyI As S, dyW cyI At T, dyW cyI Ad D]) H := hP
  have hD : va_D A9 (cat [[(h, .inr (5, [.ref (Ad 0), .ref (At 0), .ref (As 0), .ref (Ac 0), .ref (L 6 0)]))], shW cyI As S, dyW cyI At T, dyW cyI Ad D]) := hD
  refine gSl (gs := [[(h, .inr (5, [.ref (Ad 0), .ref (At 0), .ref (As 0), .ref (Ac 0), .ref (L 6 0)]))], shW cyI As S, dyW cyI At T, dyW cyI Ad D]) (As := [.long (mixI (((4756) : Int64)) (nI (D.2.2.2.2.2.1))), .int (D.2.2.2.2.2.2.1)]) (rest := []) ⟨hx, hb, hml, hown, hts⟩ (c_X5_mix l G cyI cyO (mixI (((4756) : Int64)) (nI (D.2.2.2.2.2.1))) D.2.2.2.2.2.2.1) (va_cwS 2 hts gX5_digest_X5_mix rfl rfl rfl (by decide +kernel) ⟨Nat.le_of_ble_eq_true rfl, Nat.le_of_ble_eq_true rfl⟩) hK hP hD hS hA [] rfl rfl rfl rfl hl.1 rfl (Nat.le_of_ble_eq_true rfl) dX5_digest_24 ⟨Nat.le_refl _, Nat.le_refl _⟩ (fun H locs hP hD hS => ?_)
  have hP : va_P G vwCl (cat [[(h, .inr (5, [.ref (Ad 0), .ref (At 0), .ref (As 0), .ref (Ac 0), .ref (L 6 0)]))], shW cyI As S, dyW cyI At T, dyW cyI Ad D]) H := hP
  have hD : va_D A9 (cat [[(h, .inr (5, [.ref (Ad 0), .ref (At 0), .ref (As 0), .ref (Ac 0), .ref (L 6 0)]))], shW cyI As S, dyW cyI At T, dyW cyI Ad D]) := hD
  refine lv_lstore_n (lv' := [(1, .long (mixI (mixI (((4756) : Int64)) (nI (D.2.2.2.2.2.1))) D.2.2.2.2.2.2.1)), (0, .ref (h))]) hx hb dX5_digest_27 rfl hl (by decide) rfl (fun ls hl => ?_)
  refine lv_lload_n hx hb dX5_digest_28 rfl (lv_at hl 0 rfl) ?_
  refine lv_aload_n hx hb dX5_digest_29 rfl (lv_at hl 1 rfl) ?_
  refine va_get (v := .ref (Ad 0)) (C := RX5) (T := TX5) (N := 5) hx hb hts hinX5 hown hK hP 0 rfl rfl 0 (by decide) hf10 (fun _ h9 => h9) rfl dX5_digest_30 ?_
  refine gVi (gs := [[(h, .inr (5, [.ref (Ad 0), .ref (At 0), .ref (As 0), .ref (Ac 0), .ref (L 6 0)]))], shW cyI As S, dyW cyI At T, dyW cyI Ad D]) (As := []) (rest := [.long (mixI (mixI (((4756) : Int64)) (nI (D.2.2.2.2.2.1))) D.2.2.2.2.2.2.1)]) ⟨hx, hb, hml, hown, hts⟩ (c_X1_countTakenOver l G cyI cyO Ad D) (cwV 0 hts gX5_digest_X1_countTakenOver rfl rfl rfl (by decide +kernel) ⟨Nat.le_of_ble_eq_true rfl, Nat.le_of_ble_eq_true rfl⟩) hK hP hD hS hA [3] rfl rfl rfl 0 1 rfl rfl rfl hl.1 rfl (Nat.le_of_ble_eq_true rfl) dX5_digest_33 ⟨Nat.le_refl _, Nat.le_refl _⟩ (fun H locs hP hD hS => ?_)
  have hP : va_P G vwCl (cat [[(h, .inr (5, [.ref (Ad 0), .ref (At 0), .ref (As 0), .ref (Ac 0), .ref (L 6 0)]))], shW cyI As S, dyW cyI At T, dyW cyI Ad D]) H := hP
  have hD : va_D A9 (cat [[(h, .inr (5, [.ref (Ad 0), .ref (At 0), .ref (As 0), .ref (Ac 0), .ref (L 6 0)]))], shW cyI As S, dyW cyI At T, dyW cyI Ad D]) := hD
  refine gSl (gs := [[(h, .inr (5, [.ref (Ad 0), .ref (At 0), .ref (As 0), .ref (Ac 0), .ref (L 6 0)]))], shW cyI As S, dyW cyI At T, dyW cyI Ad D]) (As := [.long (mixI (mixI (((4756) : Int64)) (nI (D.2.2.2.2.2.1))) D.2.2.2.2.2.2.1), .int (D.2.2.2.2.2.2.2.1)]) (rest := []) ⟨hx, hb, hml, hown, hts⟩ (c_X5_mix l G cyI cyO (mixI (mixI (((4756) : Int64)) (nI (D.2.2.2.2.2.1))) D.2.2.2.2.2.2.1) D.2.2.2.2.2.2.2.1) (va_cwS 2 hts gX5_digest_X5_mix rfl rfl rfl (by decide +kernel) ⟨Nat.le_of_ble_eq_true rfl, Nat.le_of_ble_eq_true rfl⟩) hK hP hD hS hA [] rfl rfl rfl rfl hl.1 rfl (Nat.le_of_ble_eq_true rfl) dX5_digest_36 ⟨Nat.le_refl _, Nat.le_refl _⟩ (fun H locs hP hD hS => ?_)
  have hP : va_P G vwCl (cat [[(h, .inr (5, [.ref (Ad 0), .ref (At 0), .ref (As 0), .ref (Ac 0), .ref (L 6 0)]))], shW cyI As S, dyW cyI At T, dyW cyI Ad D]) H := hP
  have hD : va_D A9 (cat [[(h, .inr (5, [.ref (Ad 0), .ref (At 0), .ref (As 0), .ref (Ac 0), .ref (L 6 0)]))], shW cyI As S, dyW cyI At T, dyW cyI Ad D]) := hD
  refine lv_lstore_n (lv' := [(1, .long (mixI (mixI (mixI (((4756) : Int64)) (nI (D.2.2.2.2.2.1))) D.2.2.2.2.2.2.1) D.2.2.2.2.2.2.2.1)), (0, .ref (h))]) hx hb dX5_digest_39 rfl hl (by decide) rfl (fun ls hl => ?_)
  refine lv_lload_n hx hb dX5_digest_40 rfl (lv_at hl 0 rfl) ?_
  refine lv_aload_n hx hb dX5_digest_41 rfl (lv_at hl 1 rfl) ?_
  refine va_get (v := .ref (Ad 0)) (C := RX5) (T := TX5) (N := 5) hx hb hts hinX5 hown hK hP 0 rfl rfl 0 (by decide) hf10 (fun _ h9 => h9) rfl dX5_digest_42 ?_
  refine gVi (gs := [[(h, .inr (5, [.ref (Ad 0), .ref (At 0), .ref (As 0), .ref (Ac 0), .ref (L 6 0)]))], shW cyI As S, dyW cyI At T, dyW cyI Ad D]) (As := []) (rest := [.long (mixI (mixI (mixI (((4756) : Int64)) (nI (D.2.2.2.2.2.1))) D.2.2.2.2.2.2.1) D.2.2.2.2.2.2.2.1)]) ⟨hx, hb, hml, hown, hts⟩ (c_X1_countPintsBrought l G cyI cyO Ad D) (cwV 0 hts gX5_digest_X1_countPintsBrought rfl rfl rfl (by decide +kernel) ⟨Nat.le_of_ble_eq_true rfl, Nat.le_of_ble_eq_true rfl⟩) hK hP hD hS hA [3] rfl rfl rfl 0 1 rfl rfl rfl hl.1 rfl (Nat.le_of_ble_eq_true rfl) dX5_digest_45 ⟨Nat.le_refl _, Nat.le_refl _⟩ (fun H locs hP hD hS => ?_)
  have hP : va_P G vwCl (cat [[(h, .inr (5, [.ref (Ad 0), .ref (At 0), .ref (As 0), .ref (Ac 0), .ref (L 6 0)]))], shW cyI As S, dyW cyI At T, dyW cyI Ad D]) H := hP
  have hD : va_D A9 (cat [[(h, .inr (5, [.ref (Ad 0), .ref (At 0), .ref (As 0), .ref (Ac 0), .ref (L 6 0)]))], shW cyI As S, dyW cyI At T, dyW cyI Ad D]) := hD
  refine gSl (gs := [[(h, .inr (5, [.ref (Ad 0), .ref (At 0), .ref (As 0), .ref (Ac 0), .ref (L 6 0)]))], shW cyI As S, dyW cyI At T, dyW cyI Ad D]) (As := [.long (mixI (mixI (mixI (((4756) : Int64)) (nI (D.2.2.2.2.2.1))) D.2.2.2.2.2.2.1) D.2.2.2.2.2.2.2.1), .int (D.2.2.2.2.2.2.2.2.1)]) (rest := []) ⟨hx, hb, hml, hown, hts⟩ (c_X5_mix l G cyI cyO (mixI (mixI (mixI (((4756) : Int64)) (nI (D.2.2.2.2.2.1))) D.2.2.2.2.2.2.1) D.2.2.2.2.2.2.2.1) D.2.2.2.2.2.2.2.2.1) (va_cwS 2 hts gX5_digest_X5_mix rfl rfl rfl (by decide +kernel) ⟨Nat.le_of_ble_eq_true rfl, Nat.le_of_ble_eq_true rfl⟩) hK hP hD hS hA [] rfl rfl rfl rfl hl.1 rfl (Nat.le_of_ble_eq_true rfl) dX5_digest_48 ⟨Nat.le_refl _, Nat.le_refl _⟩ (fun H locs hP hD hS => ?_)
  have hP : va_P G vwCl (cat [[(h, .inr (5, [.ref (Ad 0), .ref (At 0), .ref (As 0), .ref (Ac 0), .ref (L 6 0)]))], shW cyI As S, dyW cyI At T, dyW cyI Ad D]) H := hP
  have hD : va_D A9 (cat [[(h, .inr (5, [.ref (Ad 0), .ref (At 0), .ref (As 0), .ref (Ac 0), .ref (L 6 0)]))], shW cyI As S, dyW cyI At T, dyW cyI Ad D]) := hD
  refine lv_lstore_n (lv' := [(1, .long (mixI (mixI (mixI (mixI (((4756) : Int64)) (nI (D.2.2.2.2.2.1))) D.2.2.2.2.2.2.1) D.2.2.2.2.2.2.2.1) D.2.2.2.2.2.2.2.2.1)), (0, .ref (h))]) hx hb dX5_digest_51 rfl hl (by decide) rfl (fun ls hl => ?_)
  refine lv_lload_n hx hb dX5_digest_52 rfl (lv_at hl 0 rfl) ?_
  refine lv_aload_n hx hb dX5_digest_53 rfl (lv_at hl 1 rfl) ?_
  refine va_get (v := .ref (Ad 0)) (C := RX5) (T := TX5) (N := 5) hx hb hts hinX5 hown hK hP 0 rfl rfl 0 (by decide) hf10 (fun _ h9 => h9) rfl dX5_digest_54 ?_
  refine gVi (gs := [[(h, .inr (5, [.ref (Ad 0), .ref (At 0), .ref (As 0), .ref (Ac 0), .ref (L 6 0)]))], shW cyI As S, dyW cyI At T, dyW cyI Ad D]) (As := []) (rest := [.long (mixI (mixI (mixI (mixI (((4756) : Int64)) (nI (D.2.2.2.2.2.1))) D.2.2.2.2.2.2.1) D.2.2.2.2.2.2.2.1) D.2.2.2.2.2.2.2.2.1)]) ⟨hx, hb, hml, hown, hts⟩ (c_X1_countMisses l G cyI cyO Ad D) (cwV 0 hts gX5_digest_X1_countMisses rfl rfl rfl (by decide +kernel) ⟨Nat.le_of_ble_eq_true rfl, Nat.le_of_ble_eq_true rfl⟩) hK hP hD hS hA [3] rfl rfl rfl 0 1 rfl rfl rfl hl.1 rfl (Nat.le_of_ble_eq_true rfl) dX5_digest_57 ⟨Nat.le_refl _, Nat.le_refl _⟩ (fun H locs hP hD hS => ?_)
  have hP : va_P G vwCl (cat [[(h, .inr (5, [.ref (Ad 0), .ref (At 0), .ref (As 0), .ref (Ac 0), .ref (L 6 0)]))], shW cyI As S, dyW cyI At T, dyW cyI Ad D]) H := hP
  have hD : va_D A9 (cat [[(h, .inr (5, [.ref (Ad 0), .ref (At 0), .ref (As 0), .ref (Ac 0), .ref (L 6 0)]))], shW cyI As S, dyW cyI At T, dyW cyI Ad D]) := hD
  refine gSl (gs := [[(h, .inr (5, [.ref (Ad 0), .ref (At 0), .ref (As 0), .ref (Ac 0), .ref (L 6 0)]))], shW cyI As S, dyW cyI At T, dyW cyI Ad D]) (As := [.long (mixI (mixI (mixI (mixI (((4756) : Int64)) (nI (D.2.2.2.2.2.1))) D.2.2.2.2.2.2.1) D.2.2.2.2.2.2.2.1) D.2.2.2.2.2.2.2.2.1), .int (D.2.2.2.2.2.2.2.2.2)]) (rest := []) ⟨hx, hb, hml, hown, hts⟩ (c_X5_mix l G cyI cyO (mixI (mixI (mixI (mixI (((4756) : Int64)) (nI (D.2.2.2.2.2.1))) D.2.2.2.2.2.2.1) D.2.2.2.2.2.2.2.1) D.2.2.2.2.2.2.2.2.1) D.2.2.2.2.2.2.2.2.2) (va_cwS 2 hts gX5_digest_X5_mix rfl rfl rfl (by decide +kernel) ⟨Nat.le_of_ble_eq_true rfl, Nat.le_of_ble_eq_true rfl⟩) hK hP hD hS hA [] rfl rfl rfl rfl hl.1 rfl (Nat.le_of_ble_eq_true rfl) dX5_digest_60 ⟨Nat.le_refl _, Nat.le_refl _⟩ (fun H locs hP hD hS => ?_)
  have hP : va_P G vwCl (cat [[(h, .inr (5, [.ref (Ad 0), .ref (At 0), .ref (As 0), .ref (Ac 0), .ref (L 6 0)]))], shW cyI As S, dyW cyI At T, dyW cyI Ad D]) H := hP
  have hD : va_D A9 (cat [[(h, .inr (5, [.ref (Ad 0), .ref (At 0), .ref (As 0), .ref (Ac 0), .ref (L 6 0)]))], shW cyI As S, dyW cyI At T, dyW cyI Ad D]) := hD
  refine lv_lstore_n (lv' := [(1, .long (mixI (mixI (mixI (mixI (mixI (((4756) : Int64)) (nI (D.2.2.2.2.2.1))) D.2.2.2.2.2.2.1) D.2.2.2.2.2.2.2.1) D.2.2.2.2.2.2.2.2.1) D.2.2.2.2.2.2.2.2.2)), (0, .ref (h))]) hx hb dX5_digest_63 rfl hl (by decide) rfl (fun ls hl => ?_)
  refine lv_lload_n hx hb dX5_digest_64 rfl (lv_at hl 0 rfl) ?_
  refine lv_aload_n hx hb dX5_digest_65 rfl (lv_at hl 1 rfl) ?_
  refine va_get (v := .ref (As 0)) (C := RX5) (T := TX5) (N := 5) hx hb hts hinX5 hown hK hP 0 rfl rfl 2 (by decide) hf22 (fun _ h9 => h9) rfl dX5_digest_66 ?_
  refine lv_aload_n hx hb dX5_digest_69 rfl (lv_at hl 1 rfl) ?_
  refine va_get (v := .ref (Ad 0)) (C := RX5) (T := TX5) (N := 5) hx hb hts hinX5 hown hK hP 0 rfl rfl 0 (by decide) hf10 (fun _ h9 => h9) rfl dX5_digest_70 ?_
  refine gVi (gs := [[(h, .inr (5, [.ref (Ad 0), .ref (At 0), .ref (As 0), .ref (Ac 0), .ref (L 6 0)]))], shW cyI As S, dyW cyI At T, dyW cyI Ad D]) (As := [.ref (Ad 0)]) (rest := [.long (mixI (mixI (mixI (mixI (mixI (((4756) : Int64)) (nI (D.2.2.2.2.2.1))) D.2.2.2.2.2.2.1) D.2.2.2.2.2.2.2.1) D.2.2.2.2.2.2.2.2.1) D.2.2.2.2.2.2.2.2.2)]) ⟨hx, hb, hml, hown, hts⟩ (c_X4_shareOut l G cyI cyO As Ad S D (by omega)) (cwV 1 hts gX5_digest_X4_shareOut rfl rfl rfl (by decide +kernel) ⟨Nat.le_of_ble_eq_true rfl, Nat.le_of_ble_eq_true rfl⟩) hK hP hD hS hA [1, 3] rfl rfl rfl 0 4 rfl rfl rfl hl.1 rfl (Nat.le_of_ble_eq_true rfl) dX5_digest_73 ⟨Nat.le_refl _, Nat.le_refl _⟩ (fun H locs hP hD hS => ?_)
  have hP : va_P G vwCl (cat [[(h, .inr (5, [.ref (Ad 0), .ref (At 0), .ref (As 0), .ref (Ac 0), .ref (L 6 0)]))], shW cyI As (shOut S D), dyW cyI At T, dyW cyI Ad D]) H := hP
  have hD : va_D A9 (cat [[(h, .inr (5, [.ref (Ad 0), .ref (At 0), .ref (As 0), .ref (Ac 0), .ref (L 6 0)]))], shW cyI As (shOut S D), dyW cyI At T, dyW cyI Ad D]) := hD
  refine gSl (gs := [[(h, .inr (5, [.ref (Ad 0), .ref (At 0), .ref (As 0), .ref (Ac 0), .ref (L 6 0)]))], shW cyI As (shOut S D), dyW cyI At T, dyW cyI Ad D]) (As := [.long (mixI (mixI (mixI (mixI (mixI (((4756) : Int64)) (nI (D.2.2.2.2.2.1))) D.2.2.2.2.2.2.1) D.2.2.2.2.2.2.2.1) D.2.2.2.2.2.2.2.2.1) D.2.2.2.2.2.2.2.2.2), .int (shRes S D)]) (rest := []) ⟨hx, hb, hml, hown, hts⟩ (c_X5_mix l G cyI cyO (mixI (mixI (mixI (mixI (mixI (((4756) : Int64)) (nI (D.2.2.2.2.2.1))) D.2.2.2.2.2.2.1) D.2.2.2.2.2.2.2.1) D.2.2.2.2.2.2.2.2.1) D.2.2.2.2.2.2.2.2.2) (shRes S D)) (va_cwS 2 hts gX5_digest_X5_mix rfl rfl rfl (by decide +kernel) ⟨Nat.le_of_ble_eq_true rfl, Nat.le_of_ble_eq_true rfl⟩) hK hP hD hS hA [] rfl rfl rfl rfl hl.1 rfl (Nat.le_of_ble_eq_true rfl) dX5_digest_76 ⟨Nat.le_refl _, Nat.le_refl _⟩ (fun H locs hP hD hS => ?_)
  have hP : va_P G vwCl (cat [[(h, .inr (5, [.ref (Ad 0), .ref (At 0), .ref (As 0), .ref (Ac 0), .ref (L 6 0)]))], shW cyI As (shOut S D), dyW cyI At T, dyW cyI Ad D]) H := hP
  have hD : va_D A9 (cat [[(h, .inr (5, [.ref (Ad 0), .ref (At 0), .ref (As 0), .ref (Ac 0), .ref (L 6 0)]))], shW cyI As (shOut S D), dyW cyI At T, dyW cyI Ad D]) := hD
  refine top_l (x' := dgA S D) (rfl) ?_
  refine lv_lstore_n (lv' := [(1, .long (dgA S D)), (0, .ref (h))]) hx hb dX5_digest_79 rfl hl (by decide) rfl (fun ls hl => ?_)
  refine lv_aload_n hx hb dX5_digest_80 rfl (lv_at hl 1 rfl) ?_
  refine lv_lload_n hx hb dX5_digest_81 rfl (lv_at hl 0 rfl) ?_
  refine gVl (gs := [[(h, .inr (5, [.ref (Ad 0), .ref (At 0), .ref (As 0), .ref (Ac 0), .ref (L 6 0)]))], shW cyI As (shOut S D), dyW cyI At T, dyW cyI Ad D]) (As := [.long (dgA S D)]) (rest := []) ⟨hx, hb, hml, hown, hts⟩ (c_X5_mixMilkmen l G cyI cyO h Ad At As Ac L (shOut S D) T D (dgA S D) (by omega) q1 qS qT (hq)) (cwV 1 hts gX5_digest_X5_mixMilkmen rfl rfl rfl (by decide +kernel) ⟨Nat.le_of_ble_eq_true rfl, Nat.le_of_ble_eq_true rfl⟩) hK hP hD hS hA [0, 1, 2, 3] rfl rfl rfl 0 5 rfl rfl rfl hl.1 rfl (Nat.le_of_ble_eq_true rfl) dX5_digest_82 ⟨Nat.le_refl _, Nat.le_refl _⟩ (fun H locs hP hD hS => ?_)
  have hP : va_P G vwCl (cat [[(h, .inr (5, [.ref (Ad 0), .ref (At 0), .ref (As 0), .ref (Ac 0), .ref (L 6 0)]))], shW cyI As qS, dyW cyI At qT, dyW cyI Ad D]) H := hP
  have hD : va_D A9 (cat [[(h, .inr (5, [.ref (Ad 0), .ref (At 0), .ref (As 0), .ref (Ac 0), .ref (L 6 0)]))], shW cyI As qS, dyW cyI At qT, dyW cyI Ad D]) := hD
  refine lv_lstore_n (lv' := [(1, .long (q1)), (0, .ref (h))]) hx hb dX5_digest_85 rfl hl (by decide) rfl (fun ls hl => ?_)
  refine lv_aload_n hx hb dX5_digest_86 rfl (lv_at hl 1 rfl) ?_
  refine lv_lload_n hx hb dX5_digest_87 rfl (lv_at hl 0 rfl) ?_
  refine gVl (gs := [[(h, .inr (5, [.ref (Ad 0), .ref (At 0), .ref (As 0), .ref (Ac 0), .ref (L 6 0)]))], shW cyI As qS, dyW cyI At qT, dyW cyI Ad D]) (As := [.long (q1)]) (rest := []) ⟨hx, hb, hml, hown, hts⟩ (c_X5_mixDoorsteps l G cyI cyO h Ad At As Ac L qS D q1 (by omega)) (cwV 1 hts gX5_digest_X5_mixDoorsteps rfl rfl rfl (by decide +kernel) ⟨Nat.le_of_ble_eq_true rfl, Nat.le_of_ble_eq_true rfl⟩) hK hP hD hS hA [0, 1, 3] rfl rfl rfl 0 5 rfl rfl rfl hl.1 rfl (Nat.le_of_ble_eq_true rfl) dX5_digest_88 ⟨Nat.le_refl _, Nat.le_refl _⟩ (fun H locs hP hD hS => ?_)
  have hP : va_P G vwCl (cat [[(h, .inr (5, [.ref (Ad 0), .ref (At 0), .ref (As 0), .ref (Ac 0), .ref (L 6 0)]))], shW cyI As (shOut qS D), dyW cyI At qT, dyW cyI Ad D]) H := hP
  have hD : va_D A9 (cat [[(h, .inr (5, [.ref (Ad 0), .ref (At 0), .ref (As 0), .ref (Ac 0), .ref (L 6 0)]))], shW cyI As (shOut qS D), dyW cyI At qT, dyW cyI Ad D]) := hD
  have hP : va_P G vwCl (cat [[(h, .inr (5, [.ref (Ad 0), .ref (At 0), .ref (As 0), .ref (Ac 0), .ref (L 6 0)]))], shW cyI As (shOut qS D), dyW cyI At qT, dyW cyI Ad D]) H := hP
  have hD : va_D A9 (cat [[(h, .inr (5, [.ref (Ad 0), .ref (At 0), .ref (As 0), .ref (Ac 0), .ref (L 6 0)]))], shW cyI As (shOut qS D), dyW cyI At qT, dyW cyI Ad D]) := hD
  exact end_l hx hb hr hlocks hK hP hD hS (rfl) dX5_digest_91
abbrev rm_X5_unevenness : Room := { frames := 3, cells := 0, slots := 0, locals := 68 }
set_option maxHeartbeats 4000000 in
set_option maxRecDepth 100000 in
theorem c_X5_unevenness (l : Launch) (G : va_G) (cyI cyO : ClassId) (h : Nat) (Ad At As Ac : Nat → Nat) (L : Nat → Nat → Nat) (D : DS) (hn : D.2.2.2.2.2.1 ≤ 20) : CD l G (TY cyI cyO) yX5_unevenness wsX5_unevenness rm_X5_unevenness [.ref (h)] [[(h, .inr (5, [.ref (Ad 0), .ref (At 0), .ref (As 0), .ref (Ac 0), .ref (L 6 0)]))], dyW cyI Ad D] (uneX D) [[(h, .inr (5, [.ref (Ad 0), .ref (At 0), .ref (As 0), .ref (Ac 0), .ref (L 6 0)]))], dyW cyI Ad D] := by
  refine wk_D (cc := cX5_unevenness) (maxL := 2) (ret := (some .double)) (by decide) rfl (Nat.le_of_ble_eq_true rfl) ?_
  intro p9 e9 s9 m9 b9 t9 c9 A9 ls hx hb hr hts hown hlocks hml hK hA hD hP hl hS hnm
  have hl : lv_has ls 2 [(0, .ref (h))] := hl
  have hinX5 : ∀ w ∈ wsX50, w ∈ wsX5_unevenness := by decide +kernel
  have hf10 := hts (.fieldLink RX5 10 "DoorstepRounds" "dairy" "LDoorstepRounds$Dairy;") (by decide +kernel)
  have hd20 := rDiff_le D.2.1 D.2.2.1 D.2.2.2.2.2.1 hn
  refine lv_aload_n hx hb dX5_unevenness_0 rfl (lv_at hl 0 rfl) ?_
  refine va_get (v := .ref (Ad 0)) (C := RX5) (T := TX5) (N := 5) hx hb hts hinX5 hown hK hP 0 rfl rfl 0 (by decide) hf10 (fun _ h9 => h9) rfl dX5_unevenness_1 ?_
  refine gVi (gs := [[(h, .inr (5, [.ref (Ad 0), .ref (At 0), .ref (As 0), .ref (Ac 0), .ref (L 6 0)]))], dyW cyI Ad D]) (As := []) (rest := []) ⟨hx, hb, hml, hown, hts⟩ (c_X1_countDoorsteps l G cyI cyO Ad D) (cwV 0 hts gX5_unevenness_X1_countDoorsteps rfl rfl rfl (by decide +kernel) ⟨Nat.le_of_ble_eq_true rfl, Nat.le_of_ble_eq_true rfl⟩) hK hP hD hS hA [1] rfl rfl rfl 0 1 rfl rfl rfl hl.1 rfl (Nat.le_of_ble_eq_true rfl) dX5_unevenness_4 ⟨Nat.le_refl _, Nat.le_refl _⟩ (fun H locs hP hD hS => ?_)
  have hP : va_P G vwCl (cat [[(h, .inr (5, [.ref (Ad 0), .ref (At 0), .ref (As 0), .ref (Ac 0), .ref (L 6 0)]))], dyW cyI Ad D]) H := hP
  have hD : va_D A9 (cat [[(h, .inr (5, [.ref (Ad 0), .ref (At 0), .ref (As 0), .ref (Ac 0), .ref (L 6 0)]))], dyW cyI Ad D]) := hD
  refine lv_istore_n (lv' := [(1, .int (nI (D.2.2.2.2.2.1))), (0, .ref (h))]) hx hb dX5_unevenness_7 rfl hl (by decide) rfl (fun ls hl => ?_)
  refine lv_iload_n hx hb dX5_unevenness_8 rfl (lv_at hl 0 rfl) ?_
  refine lv_if_gt (tgt := 14) hx hb dX5_unevenness_9 (by decide) (fun c_9 => ?_) (fun c_9 => ?_)
  · have c_9 : (0) < (D.2.2.2.2.2.1) := (nI_ltI (a := 0) (b := D.2.2.2.2.2.1) (by omega) (by omega)).mp c_9
    refine lv_aload_n hx hb dX5_unevenness_14 rfl (lv_at hl 1 rfl) ?_
    refine va_get (v := .ref (Ad 0)) (C := RX5) (T := TX5) (N := 5) hx hb hts hinX5 hown hK hP 0 rfl rfl 0 (by decide) hf10 (fun _ h9 => h9) rfl dX5_unevenness_15 ?_
    refine gVi (gs := [[(h, .inr (5, [.ref (Ad 0), .ref (At 0), .ref (As 0), .ref (Ac 0), .ref (L 6 0)]))], dyW cyI Ad D]) (As := []) (rest := []) ⟨hx, hb, hml, hown, hts⟩ (c_X1_roundDifference l G cyI cyO Ad D (by omega)) (cwV 0 hts gX5_unevenness_X1_roundDifference rfl rfl rfl (by decide +kernel) ⟨Nat.le_of_ble_eq_true rfl, Nat.le_of_ble_eq_true rfl⟩) hK hP hD hS hA [1] rfl rfl rfl 0 1 rfl rfl rfl hl.1 rfl (Nat.le_of_ble_eq_true rfl) dX5_unevenness_18 ⟨Nat.le_refl _, Nat.le_refl _⟩ (fun H locs hP hD hS => ?_)
    have hP : va_P G vwCl (cat [[(h, .inr (5, [.ref (Ad 0), .ref (At 0), .ref (As 0), .ref (Ac 0), .ref (L 6 0)]))], dyW cyI Ad D]) H := hP
    have hD : va_D A9 (cat [[(h, .inr (5, [.ref (Ad 0), .ref (At 0), .ref (As 0), .ref (Ac 0), .ref (L 6 0)]))], dyW cyI Ad D]) := hD
    refine lv_i2d hx hb dX5_unevenness_21 ?_
    refine lv_iload_n hx hb dX5_unevenness_22 rfl (lv_at hl 0 rfl) ?_
    refine lv_i2d hx hb dX5_unevenness_23 ?_
    refine lv_ddiv hx hb dX5_unevenness_24 (div_ok (by omega) (by omega) (by omega)) ?_
    have hP : va_P G vwCl (cat [[(h, .inr (5, [.ref (Ad 0), .ref (At 0), .ref (As 0), .ref (Ac 0), .ref (L 6 0)]))], dyW cyI Ad D]) H := hP
    have hD : va_D A9 (cat [[(h, .inr (5, [.ref (Ad 0), .ref (At 0), .ref (As 0), .ref (Ac 0), .ref (L 6 0)]))], dyW cyI Ad D]) := hD
    exact end_d hx hb hr hlocks hK hP hD hS (by first | (rw [uneX, if_pos (by omega)]; done) | (rw [uneX, if_neg (by omega)]; done)) dX5_unevenness_25
  · have c_9 : ¬ (0) < (D.2.2.2.2.2.1) := fun h9 => c_9 ((nI_ltI (a := 0) (b := D.2.2.2.2.2.1) (by omega) (by omega)).mpr h9)
    refine lv_dconst0 hx hb dX5_unevenness_12 ?_
    have hP : va_P G vwCl (cat [[(h, .inr (5, [.ref (Ad 0), .ref (At 0), .ref (As 0), .ref (Ac 0), .ref (L 6 0)]))], dyW cyI Ad D]) H := hP
    have hD : va_D A9 (cat [[(h, .inr (5, [.ref (Ad 0), .ref (At 0), .ref (As 0), .ref (Ac 0), .ref (L 6 0)]))], dyW cyI Ad D]) := hD
    exact end_d hx hb hr hlocks hK hP hD hS (by first | (rw [uneX, if_pos (by omega)]; done) | (rw [uneX, if_neg (by omega)]; done)) dX5_unevenness_13
abbrev rm_X5_doorsteps : Room := { frames := 1, cells := 0, slots := 0, locals := 20 }
set_option maxHeartbeats 4000000 in
set_option maxRecDepth 100000 in
theorem c_X5_doorsteps (l : Launch) (G : va_G) (cyI cyO : ClassId) (h : Nat) (Ad At As Ac : Nat → Nat) (L : Nat → Nat → Nat) (D : DS) : CI l G (TY cyI cyO) yX5_doorsteps wsX5_doorsteps rm_X5_doorsteps [.ref (h)] [[(h, .inr (5, [.ref (Ad 0), .ref (At 0), .ref (As 0), .ref (Ac 0), .ref (L 6 0)]))], dyW cyI Ad D] (nI (D.2.2.2.2.2.1)) [[(h, .inr (5, [.ref (Ad 0), .ref (At 0), .ref (As 0), .ref (Ac 0), .ref (L 6 0)]))], dyW cyI Ad D] := by
  refine wk_I (cc := cX5_doorsteps) (maxL := 1) (ret := (some .int)) (by decide) rfl (Nat.le_of_ble_eq_true rfl) ?_
  intro p9 e9 s9 m9 b9 t9 c9 A9 ls hx hb hr hts hown hlocks hml hK hA hD hP hl hS hnm
  have hl : lv_has ls 1 [(0, .ref (h))] := hl
  have hinX5 : ∀ w ∈ wsX50, w ∈ wsX5_doorsteps := by decide +kernel
  have hf10 := hts (.fieldLink RX5 10 "DoorstepRounds" "dairy" "LDoorstepRounds$Dairy;") (by decide +kernel)
  refine lv_aload_n hx hb dX5_doorsteps_0 rfl (lv_at hl 0 rfl) ?_
  refine va_get (v := .ref (Ad 0)) (C := RX5) (T := TX5) (N := 5) hx hb hts hinX5 hown hK hP 0 rfl rfl 0 (by decide) hf10 (fun _ h9 => h9) rfl dX5_doorsteps_1 ?_
  refine gVi (gs := [[(h, .inr (5, [.ref (Ad 0), .ref (At 0), .ref (As 0), .ref (Ac 0), .ref (L 6 0)]))], dyW cyI Ad D]) (As := []) (rest := []) ⟨hx, hb, hml, hown, hts⟩ (c_X1_countDoorsteps l G cyI cyO Ad D) (cwV 0 hts gX5_doorsteps_X1_countDoorsteps rfl rfl rfl (by decide +kernel) ⟨Nat.le_of_ble_eq_true rfl, Nat.le_of_ble_eq_true rfl⟩) hK hP hD hS hA [1] rfl rfl rfl 0 1 rfl rfl rfl hl.1 rfl (Nat.le_of_ble_eq_true rfl) dX5_doorsteps_4 ⟨Nat.le_refl _, Nat.le_refl _⟩ (fun H locs hP hD hS => ?_)
  have hP : va_P G vwCl (cat [[(h, .inr (5, [.ref (Ad 0), .ref (At 0), .ref (As 0), .ref (Ac 0), .ref (L 6 0)]))], dyW cyI Ad D]) H := hP
  have hD : va_D A9 (cat [[(h, .inr (5, [.ref (Ad 0), .ref (At 0), .ref (As 0), .ref (Ac 0), .ref (L 6 0)]))], dyW cyI Ad D]) := hD
  have hP : va_P G vwCl (cat [[(h, .inr (5, [.ref (Ad 0), .ref (At 0), .ref (As 0), .ref (Ac 0), .ref (L 6 0)]))], dyW cyI Ad D]) H := hP
  have hD : va_D A9 (cat [[(h, .inr (5, [.ref (Ad 0), .ref (At 0), .ref (As 0), .ref (Ac 0), .ref (L 6 0)]))], dyW cyI Ad D]) := hD
  exact end_i hx hb hr hlocks hK hP hD hS (rfl) dX5_doorsteps_7
abbrev rm_X5_handover : Room := { frames := 1, cells := 0, slots := 0, locals := 20 }
set_option maxHeartbeats 4000000 in
set_option maxRecDepth 100000 in
theorem c_X5_handover (l : Launch) (G : va_G) (cyI cyO : ClassId) (h : Nat) (Ad At As Ac : Nat → Nat) (L : Nat → Nat → Nat) (D : DS) : CI l G (TY cyI cyO) yX5_handover wsX5_handover rm_X5_handover [.ref (h)] [[(h, .inr (5, [.ref (Ad 0), .ref (At 0), .ref (As 0), .ref (Ac 0), .ref (L 6 0)]))], dyW cyI Ad D] D.2.2.2.2.2.2.1 [[(h, .inr (5, [.ref (Ad 0), .ref (At 0), .ref (As 0), .ref (Ac 0), .ref (L 6 0)]))], dyW cyI Ad D] := by
  refine wk_I (cc := cX5_handover) (maxL := 1) (ret := (some .int)) (by decide) rfl (Nat.le_of_ble_eq_true rfl) ?_
  intro p9 e9 s9 m9 b9 t9 c9 A9 ls hx hb hr hts hown hlocks hml hK hA hD hP hl hS hnm
  have hl : lv_has ls 1 [(0, .ref (h))] := hl
  have hinX5 : ∀ w ∈ wsX50, w ∈ wsX5_handover := by decide +kernel
  have hf10 := hts (.fieldLink RX5 10 "DoorstepRounds" "dairy" "LDoorstepRounds$Dairy;") (by decide +kernel)
  refine lv_aload_n hx hb dX5_handover_0 rfl (lv_at hl 0 rfl) ?_
  refine va_get (v := .ref (Ad 0)) (C := RX5) (T := TX5) (N := 5) hx hb hts hinX5 hown hK hP 0 rfl rfl 0 (by decide) hf10 (fun _ h9 => h9) rfl dX5_handover_1 ?_
  refine gVi (gs := [[(h, .inr (5, [.ref (Ad 0), .ref (At 0), .ref (As 0), .ref (Ac 0), .ref (L 6 0)]))], dyW cyI Ad D]) (As := []) (rest := []) ⟨hx, hb, hml, hown, hts⟩ (c_X1_nextStep l G cyI cyO Ad D) (cwV 0 hts gX5_handover_X1_nextStep rfl rfl rfl (by decide +kernel) ⟨Nat.le_of_ble_eq_true rfl, Nat.le_of_ble_eq_true rfl⟩) hK hP hD hS hA [1] rfl rfl rfl 0 1 rfl rfl rfl hl.1 rfl (Nat.le_of_ble_eq_true rfl) dX5_handover_4 ⟨Nat.le_refl _, Nat.le_refl _⟩ (fun H locs hP hD hS => ?_)
  have hP : va_P G vwCl (cat [[(h, .inr (5, [.ref (Ad 0), .ref (At 0), .ref (As 0), .ref (Ac 0), .ref (L 6 0)]))], dyW cyI Ad D]) H := hP
  have hD : va_D A9 (cat [[(h, .inr (5, [.ref (Ad 0), .ref (At 0), .ref (As 0), .ref (Ac 0), .ref (L 6 0)]))], dyW cyI Ad D]) := hD
  have hP : va_P G vwCl (cat [[(h, .inr (5, [.ref (Ad 0), .ref (At 0), .ref (As 0), .ref (Ac 0), .ref (L 6 0)]))], dyW cyI Ad D]) H := hP
  have hD : va_D A9 (cat [[(h, .inr (5, [.ref (Ad 0), .ref (At 0), .ref (As 0), .ref (Ac 0), .ref (L 6 0)]))], dyW cyI Ad D]) := hD
  exact end_i hx hb hr hlocks hK hP hD hS (rfl) dX5_handover_7
abbrev rm_X5_changed : Room := { frames := 1, cells := 0, slots := 0, locals := 20 }
set_option maxHeartbeats 4000000 in
set_option maxRecDepth 100000 in
theorem c_X5_changed (l : Launch) (G : va_G) (cyI cyO : ClassId) (h : Nat) (Ad At As Ac : Nat → Nat) (L : Nat → Nat → Nat) (D : DS) : CI l G (TY cyI cyO) yX5_changed wsX5_changed rm_X5_changed [.ref (h)] [[(h, .inr (5, [.ref (Ad 0), .ref (At 0), .ref (As 0), .ref (Ac 0), .ref (L 6 0)]))], dyW cyI Ad D] D.2.2.2.2.2.2.2.1 [[(h, .inr (5, [.ref (Ad 0), .ref (At 0), .ref (As 0), .ref (Ac 0), .ref (L 6 0)]))], dyW cyI Ad D] := by
  refine wk_I (cc := cX5_changed) (maxL := 1) (ret := (some .int)) (by decide) rfl (Nat.le_of_ble_eq_true rfl) ?_
  intro p9 e9 s9 m9 b9 t9 c9 A9 ls hx hb hr hts hown hlocks hml hK hA hD hP hl hS hnm
  have hl : lv_has ls 1 [(0, .ref (h))] := hl
  have hinX5 : ∀ w ∈ wsX50, w ∈ wsX5_changed := by decide +kernel
  have hf10 := hts (.fieldLink RX5 10 "DoorstepRounds" "dairy" "LDoorstepRounds$Dairy;") (by decide +kernel)
  refine lv_aload_n hx hb dX5_changed_0 rfl (lv_at hl 0 rfl) ?_
  refine va_get (v := .ref (Ad 0)) (C := RX5) (T := TX5) (N := 5) hx hb hts hinX5 hown hK hP 0 rfl rfl 0 (by decide) hf10 (fun _ h9 => h9) rfl dX5_changed_1 ?_
  refine gVi (gs := [[(h, .inr (5, [.ref (Ad 0), .ref (At 0), .ref (As 0), .ref (Ac 0), .ref (L 6 0)]))], dyW cyI Ad D]) (As := []) (rest := []) ⟨hx, hb, hml, hown, hts⟩ (c_X1_countTakenOver l G cyI cyO Ad D) (cwV 0 hts gX5_changed_X1_countTakenOver rfl rfl rfl (by decide +kernel) ⟨Nat.le_of_ble_eq_true rfl, Nat.le_of_ble_eq_true rfl⟩) hK hP hD hS hA [1] rfl rfl rfl 0 1 rfl rfl rfl hl.1 rfl (Nat.le_of_ble_eq_true rfl) dX5_changed_4 ⟨Nat.le_refl _, Nat.le_refl _⟩ (fun H locs hP hD hS => ?_)
  have hP : va_P G vwCl (cat [[(h, .inr (5, [.ref (Ad 0), .ref (At 0), .ref (As 0), .ref (Ac 0), .ref (L 6 0)]))], dyW cyI Ad D]) H := hP
  have hD : va_D A9 (cat [[(h, .inr (5, [.ref (Ad 0), .ref (At 0), .ref (As 0), .ref (Ac 0), .ref (L 6 0)]))], dyW cyI Ad D]) := hD
  have hP : va_P G vwCl (cat [[(h, .inr (5, [.ref (Ad 0), .ref (At 0), .ref (As 0), .ref (Ac 0), .ref (L 6 0)]))], dyW cyI Ad D]) H := hP
  have hD : va_D A9 (cat [[(h, .inr (5, [.ref (Ad 0), .ref (At 0), .ref (As 0), .ref (Ac 0), .ref (L 6 0)]))], dyW cyI Ad D]) := hD
  exact end_i hx hb hr hlocks hK hP hD hS (rfl) dX5_changed_7
abbrev rm_X5_delivered : Room := { frames := 1, cells := 0, slots := 0, locals := 20 }
set_option maxHeartbeats 4000000 in
set_option maxRecDepth 100000 in
theorem c_X5_delivered (l : Launch) (G : va_G) (cyI cyO : ClassId) (h : Nat) (Ad At As Ac : Nat → Nat) (L : Nat → Nat → Nat) (D : DS) : CI l G (TY cyI cyO) yX5_delivered wsX5_delivered rm_X5_delivered [.ref (h)] [[(h, .inr (5, [.ref (Ad 0), .ref (At 0), .ref (As 0), .ref (Ac 0), .ref (L 6 0)]))], dyW cyI Ad D] D.2.2.2.2.2.2.2.2.1 [[(h, .inr (5, [.ref (Ad 0), .ref (At 0), .ref (As 0), .ref (Ac 0), .ref (L 6 0)]))], dyW cyI Ad D] := by
  refine wk_I (cc := cX5_delivered) (maxL := 1) (ret := (some .int)) (by decide) rfl (Nat.le_of_ble_eq_true rfl) ?_
  intro p9 e9 s9 m9 b9 t9 c9 A9 ls hx hb hr hts hown hlocks hml hK hA hD hP hl hS hnm
  have hl : lv_has ls 1 [(0, .ref (h))] := hl
  have hinX5 : ∀ w ∈ wsX50, w ∈ wsX5_delivered := by decide +kernel
  have hf10 := hts (.fieldLink RX5 10 "DoorstepRounds" "dairy" "LDoorstepRounds$Dairy;") (by decide +kernel)
  refine lv_aload_n hx hb dX5_delivered_0 rfl (lv_at hl 0 rfl) ?_
  refine va_get (v := .ref (Ad 0)) (C := RX5) (T := TX5) (N := 5) hx hb hts hinX5 hown hK hP 0 rfl rfl 0 (by decide) hf10 (fun _ h9 => h9) rfl dX5_delivered_1 ?_
  refine gVi (gs := [[(h, .inr (5, [.ref (Ad 0), .ref (At 0), .ref (As 0), .ref (Ac 0), .ref (L 6 0)]))], dyW cyI Ad D]) (As := []) (rest := []) ⟨hx, hb, hml, hown, hts⟩ (c_X1_countPintsBrought l G cyI cyO Ad D) (cwV 0 hts gX5_delivered_X1_countPintsBrought rfl rfl rfl (by decide +kernel) ⟨Nat.le_of_ble_eq_true rfl, Nat.le_of_ble_eq_true rfl⟩) hK hP hD hS hA [1] rfl rfl rfl 0 1 rfl rfl rfl hl.1 rfl (Nat.le_of_ble_eq_true rfl) dX5_delivered_4 ⟨Nat.le_refl _, Nat.le_refl _⟩ (fun H locs hP hD hS => ?_)
  have hP : va_P G vwCl (cat [[(h, .inr (5, [.ref (Ad 0), .ref (At 0), .ref (As 0), .ref (Ac 0), .ref (L 6 0)]))], dyW cyI Ad D]) H := hP
  have hD : va_D A9 (cat [[(h, .inr (5, [.ref (Ad 0), .ref (At 0), .ref (As 0), .ref (Ac 0), .ref (L 6 0)]))], dyW cyI Ad D]) := hD
  have hP : va_P G vwCl (cat [[(h, .inr (5, [.ref (Ad 0), .ref (At 0), .ref (As 0), .ref (Ac 0), .ref (L 6 0)]))], dyW cyI Ad D]) H := hP
  have hD : va_D A9 (cat [[(h, .inr (5, [.ref (Ad 0), .ref (At 0), .ref (As 0), .ref (Ac 0), .ref (L 6 0)]))], dyW cyI Ad D]) := hD
  exact end_i hx hb hr hlocks hK hP hD hS (rfl) dX5_delivered_7
abbrev rm_X5_misses : Room := { frames := 1, cells := 0, slots := 0, locals := 20 }
set_option maxHeartbeats 4000000 in
set_option maxRecDepth 100000 in
theorem c_X5_misses (l : Launch) (G : va_G) (cyI cyO : ClassId) (h : Nat) (Ad At As Ac : Nat → Nat) (L : Nat → Nat → Nat) (D : DS) : CI l G (TY cyI cyO) yX5_misses wsX5_misses rm_X5_misses [.ref (h)] [[(h, .inr (5, [.ref (Ad 0), .ref (At 0), .ref (As 0), .ref (Ac 0), .ref (L 6 0)]))], dyW cyI Ad D] D.2.2.2.2.2.2.2.2.2 [[(h, .inr (5, [.ref (Ad 0), .ref (At 0), .ref (As 0), .ref (Ac 0), .ref (L 6 0)]))], dyW cyI Ad D] := by
  refine wk_I (cc := cX5_misses) (maxL := 1) (ret := (some .int)) (by decide) rfl (Nat.le_of_ble_eq_true rfl) ?_
  intro p9 e9 s9 m9 b9 t9 c9 A9 ls hx hb hr hts hown hlocks hml hK hA hD hP hl hS hnm
  have hl : lv_has ls 1 [(0, .ref (h))] := hl
  have hinX5 : ∀ w ∈ wsX50, w ∈ wsX5_misses := by decide +kernel
  have hf10 := hts (.fieldLink RX5 10 "DoorstepRounds" "dairy" "LDoorstepRounds$Dairy;") (by decide +kernel)
  refine lv_aload_n hx hb dX5_misses_0 rfl (lv_at hl 0 rfl) ?_
  refine va_get (v := .ref (Ad 0)) (C := RX5) (T := TX5) (N := 5) hx hb hts hinX5 hown hK hP 0 rfl rfl 0 (by decide) hf10 (fun _ h9 => h9) rfl dX5_misses_1 ?_
  refine gVi (gs := [[(h, .inr (5, [.ref (Ad 0), .ref (At 0), .ref (As 0), .ref (Ac 0), .ref (L 6 0)]))], dyW cyI Ad D]) (As := []) (rest := []) ⟨hx, hb, hml, hown, hts⟩ (c_X1_countMisses l G cyI cyO Ad D) (cwV 0 hts gX5_misses_X1_countMisses rfl rfl rfl (by decide +kernel) ⟨Nat.le_of_ble_eq_true rfl, Nat.le_of_ble_eq_true rfl⟩) hK hP hD hS hA [1] rfl rfl rfl 0 1 rfl rfl rfl hl.1 rfl (Nat.le_of_ble_eq_true rfl) dX5_misses_4 ⟨Nat.le_refl _, Nat.le_refl _⟩ (fun H locs hP hD hS => ?_)
  have hP : va_P G vwCl (cat [[(h, .inr (5, [.ref (Ad 0), .ref (At 0), .ref (As 0), .ref (Ac 0), .ref (L 6 0)]))], dyW cyI Ad D]) H := hP
  have hD : va_D A9 (cat [[(h, .inr (5, [.ref (Ad 0), .ref (At 0), .ref (As 0), .ref (Ac 0), .ref (L 6 0)]))], dyW cyI Ad D]) := hD
  have hP : va_P G vwCl (cat [[(h, .inr (5, [.ref (Ad 0), .ref (At 0), .ref (As 0), .ref (Ac 0), .ref (L 6 0)]))], dyW cyI Ad D]) H := hP
  have hD : va_D A9 (cat [[(h, .inr (5, [.ref (Ad 0), .ref (At 0), .ref (As 0), .ref (Ac 0), .ref (L 6 0)]))], dyW cyI Ad D]) := hD
  exact end_i hx hb hr hlocks hK hP hD hS (rfl) dX5_misses_7
abbrev rm_X5_changesToCome : Room := { frames := 4, cells := 0, slots := 0, locals := 92 }
set_option maxHeartbeats 4000000 in
set_option maxRecDepth 100000 in
theorem c_X5_changesToCome (l : Launch) (G : va_G) (cyI cyO : ClassId) (h : Nat) (Ad At As Ac : Nat → Nat) (L : Nat → Nat → Nat) (S : SS) (D : DS) (hn : D.2.2.2.2.2.1 ≤ 20) : CI l G (TY cyI cyO) yX5_changesToCome wsX5_changesToCome rm_X5_changesToCome [.ref (h)] [[(h, .inr (5, [.ref (Ad 0), .ref (At 0), .ref (As 0), .ref (Ac 0), .ref (L 6 0)]))], shW cyI As S, dyW cyI Ad D] (shRes S D) [[(h, .inr (5, [.ref (Ad 0), .ref (At 0), .ref (As 0), .ref (Ac 0), .ref (L 6 0)]))], shW cyI As (shOut S D), dyW cyI Ad D] := by
  refine wk_I (cc := cX5_changesToCome) (maxL := 1) (ret := (some .int)) (by decide) rfl (Nat.le_of_ble_eq_true rfl) ?_
  intro p9 e9 s9 m9 b9 t9 c9 A9 ls hx hb hr hts hown hlocks hml hK hA hD hP hl hS hnm
  have hl : lv_has ls 1 [(0, .ref (h))] := hl
  have hinX5 : ∀ w ∈ wsX50, w ∈ wsX5_changesToCome := by decide +kernel
  have hf10 := hts (.fieldLink RX5 10 "DoorstepRounds" "dairy" "LDoorstepRounds$Dairy;") (by decide +kernel)
  have hf22 := hts (.fieldLink RX5 22 "DoorstepRounds" "sharing" "LDoorstepRounds$Sharing;") (by decide +kernel)
  refine lv_aload_n hx hb dX5_changesToCome_0 rfl (lv_at hl 0 rfl) ?_
  refine va_get (v := .ref (As 0)) (C := RX5) (T := TX5) (N := 5) hx hb hts hinX5 hown hK hP 0 rfl rfl 2 (by decide) hf22 (fun _ h9 => h9) rfl dX5_changesToCome_1 ?_
  refine lv_aload_n hx hb dX5_changesToCome_4 rfl (lv_at hl 0 rfl) ?_
  refine va_get (v := .ref (Ad 0)) (C := RX5) (T := TX5) (N := 5) hx hb hts hinX5 hown hK hP 0 rfl rfl 0 (by decide) hf10 (fun _ h9 => h9) rfl dX5_changesToCome_5 ?_
  refine gVi (gs := [[(h, .inr (5, [.ref (Ad 0), .ref (At 0), .ref (As 0), .ref (Ac 0), .ref (L 6 0)]))], shW cyI As S, dyW cyI Ad D]) (As := [.ref (Ad 0)]) (rest := []) ⟨hx, hb, hml, hown, hts⟩ (c_X4_shareOut l G cyI cyO As Ad S D (by omega)) (cwV 1 hts gX5_changesToCome_X4_shareOut rfl rfl rfl (by decide +kernel) ⟨Nat.le_of_ble_eq_true rfl, Nat.le_of_ble_eq_true rfl⟩) hK hP hD hS hA [1, 2] rfl rfl rfl 0 4 rfl rfl rfl hl.1 rfl (Nat.le_of_ble_eq_true rfl) dX5_changesToCome_8 ⟨Nat.le_refl _, Nat.le_refl _⟩ (fun H locs hP hD hS => ?_)
  have hP : va_P G vwCl (cat [[(h, .inr (5, [.ref (Ad 0), .ref (At 0), .ref (As 0), .ref (Ac 0), .ref (L 6 0)]))], shW cyI As (shOut S D), dyW cyI Ad D]) H := hP
  have hD : va_D A9 (cat [[(h, .inr (5, [.ref (Ad 0), .ref (At 0), .ref (As 0), .ref (Ac 0), .ref (L 6 0)]))], shW cyI As (shOut S D), dyW cyI Ad D]) := hD
  have hP : va_P G vwCl (cat [[(h, .inr (5, [.ref (Ad 0), .ref (At 0), .ref (As 0), .ref (Ac 0), .ref (L 6 0)]))], shW cyI As (shOut S D), dyW cyI Ad D]) H := hP
  have hD : va_D A9 (cat [[(h, .inr (5, [.ref (Ad 0), .ref (At 0), .ref (As 0), .ref (Ac 0), .ref (L 6 0)]))], shW cyI As (shOut S D), dyW cyI Ad D]) := hD
  exact end_i hx hb hr hlocks hK hP hD hS (rfl) dX5_changesToCome_11
abbrev rm_X5_deliver : Room := { frames := 4, cells := 0, slots := 0, locals := 86 }
set_option maxHeartbeats 4000000 in
set_option maxRecDepth 100000 in
theorem c_X5_deliver (l : Launch) (G : va_G) (cyI cyO : ClassId) (h : Nat) (Ad At As Ac : Nat → Nat) (L : Nat → Nat → Nat) (D : DS) (V : HS) (hn : D.2.2.2.2.2.1 ≤ 20) (hV : V.1 ≤ 6) : CI l G (TY cyI cyO) yX5_deliver wsX5_deliver rm_X5_deliver [.ref (h)] [[(h, .inr (5, [.ref (Ad 0), .ref (At 0), .ref (As 0), .ref (Ac 0), .ref (L 6 0)]))], dyW cyI Ad D, hiW cyI cyO L V] ((bmAll D.1 D.2.1 D.2.2.2.2.2.2.2.2.2 D.2.2.2.2.2.1).1) [[(h, .inr (5, [.ref (Ad 0), .ref (At 0), .ref (As 0), .ref (Ac 0), .ref (L 6 0)]))], dyW cyI Ad (dBring D), hiW cyI cyO (svM L V) (svS V D)] := by
  refine wk_I (cc := cX5_deliver) (maxL := 1) (ret := (some .int)) (by decide) rfl (Nat.le_of_ble_eq_true rfl) ?_
  intro p9 e9 s9 m9 b9 t9 c9 A9 ls hx hb hr hts hown hlocks hml hK hA hD hP hl hS hnm
  have hl : lv_has ls 1 [(0, .ref (h))] := hl
  have hinX5 : ∀ w ∈ wsX50, w ∈ wsX5_deliver := by decide +kernel
  have hf10 := hts (.fieldLink RX5 10 "DoorstepRounds" "dairy" "LDoorstepRounds$Dairy;") (by decide +kernel)
  have hf36 := hts (.fieldLink RX5 36 "DoorstepRounds" "history" "LDoorstepRounds$History;") (by decide +kernel)
  refine lv_aload_n hx hb dX5_deliver_0 rfl (lv_at hl 0 rfl) ?_
  refine va_get (v := .ref (L 6 0)) (C := RX5) (T := TX5) (N := 5) hx hb hts hinX5 hown hK hP 0 rfl rfl 4 (by decide) hf36 (fun _ h9 => h9) rfl dX5_deliver_1 ?_
  refine lv_aload_n hx hb dX5_deliver_4 rfl (lv_at hl 0 rfl) ?_
  refine va_get (v := .ref (Ad 0)) (C := RX5) (T := TX5) (N := 5) hx hb hts hinX5 hown hK hP 0 rfl rfl 0 (by decide) hf10 (fun _ h9 => h9) rfl dX5_deliver_5 ?_
  refine gVv (gs := [[(h, .inr (5, [.ref (Ad 0), .ref (At 0), .ref (As 0), .ref (Ac 0), .ref (L 6 0)]))], dyW cyI Ad D, hiW cyI cyO L V]) (As := [.ref (Ad 0)]) (rest := []) ⟨hx, hb, hml, hown, hts⟩ (c_X2_saveS l G cyI cyO L V Ad D (by omega)) (cwV 1 hts gX5_deliver_X2_save rfl rfl rfl (by decide +kernel) ⟨Nat.le_of_ble_eq_true rfl, Nat.le_of_ble_eq_true rfl⟩) hK hP hD hS hA [2, 1] rfl rfl rfl 0 2 rfl rfl rfl hl.1 rfl (Nat.le_of_ble_eq_true rfl) dX5_deliver_8 ⟨Nat.le_refl _, Nat.le_refl _⟩ (fun H locs hP hD hS => ?_)
  have hP : va_P G vwCl (cat [[(h, .inr (5, [.ref (Ad 0), .ref (At 0), .ref (As 0), .ref (Ac 0), .ref (L 6 0)]))], dyW cyI Ad D, hiW cyI cyO (svM L V) (svS V D)]) H := hP
  have hD : va_D A9 (cat [[(h, .inr (5, [.ref (Ad 0), .ref (At 0), .ref (As 0), .ref (Ac 0), .ref (L 6 0)]))], dyW cyI Ad D, hiW cyI cyO (svM L V) (svS V D)]) := hD
  refine lv_aload_n hx hb dX5_deliver_11 rfl (lv_at hl 0 rfl) ?_
  refine va_get (v := .ref (Ad 0)) (C := RX5) (T := TX5) (N := 5) hx hb hts hinX5 hown hK hP 0 rfl rfl 0 (by decide) hf10 (fun _ h9 => h9) rfl dX5_deliver_12 ?_
  refine gVi (gs := [[(h, .inr (5, [.ref (Ad 0), .ref (At 0), .ref (As 0), .ref (Ac 0), .ref (L 6 0)]))], dyW cyI Ad D, hiW cyI cyO (svM L V) (svS V D)]) (As := []) (rest := []) ⟨hx, hb, hml, hown, hts⟩ (c_X1_bringMilk l G cyI cyO Ad D (by omega)) (cwV 0 hts gX5_deliver_X1_bringMilk rfl rfl rfl (by decide +kernel) ⟨Nat.le_of_ble_eq_true rfl, Nat.le_of_ble_eq_true rfl⟩) hK hP hD hS hA [1] rfl rfl rfl 0 1 rfl rfl rfl hl.1 rfl (Nat.le_of_ble_eq_true rfl) dX5_deliver_15 ⟨Nat.le_refl _, Nat.le_refl _⟩ (fun H locs hP hD hS => ?_)
  have hP : va_P G vwCl (cat [[(h, .inr (5, [.ref (Ad 0), .ref (At 0), .ref (As 0), .ref (Ac 0), .ref (L 6 0)]))], dyW cyI Ad ((D.1, D.2.1, D.2.2.1, D.2.2.2.1, D.2.2.2.2.1, D.2.2.2.2.2.1, D.2.2.2.2.2.2.1, D.2.2.2.2.2.2.2.1, D.2.2.2.2.2.2.2.2.1 + (bmAll D.1 D.2.1 D.2.2.2.2.2.2.2.2.2 D.2.2.2.2.2.1).1, (bmAll D.1 D.2.1 D.2.2.2.2.2.2.2.2.2 D.2.2.2.2.2.1).2)), hiW cyI cyO (svM L V) (svS V D)]) H := hP
  have hD : va_D A9 (cat [[(h, .inr (5, [.ref (Ad 0), .ref (At 0), .ref (As 0), .ref (Ac 0), .ref (L 6 0)]))], dyW cyI Ad ((D.1, D.2.1, D.2.2.1, D.2.2.2.1, D.2.2.2.2.1, D.2.2.2.2.2.1, D.2.2.2.2.2.2.1, D.2.2.2.2.2.2.2.1, D.2.2.2.2.2.2.2.2.1 + (bmAll D.1 D.2.1 D.2.2.2.2.2.2.2.2.2 D.2.2.2.2.2.1).1, (bmAll D.1 D.2.1 D.2.2.2.2.2.2.2.2.2 D.2.2.2.2.2.1).2)), hiW cyI cyO (svM L V) (svS V D)]) := hD
  have hP : va_P G vwCl (cat [[(h, .inr (5, [.ref (Ad 0), .ref (At 0), .ref (As 0), .ref (Ac 0), .ref (L 6 0)]))], dyW cyI Ad (dBring D), hiW cyI cyO (svM L V) (svS V D)]) H := hP
  have hD : va_D A9 (cat [[(h, .inr (5, [.ref (Ad 0), .ref (At 0), .ref (As 0), .ref (Ac 0), .ref (L 6 0)]))], dyW cyI Ad (dBring D), hiW cyI cyO (svM L V) (svS V D)]) := hD
  exact end_i hx hb hr hlocks hK hP hD hS (rfl) dX5_deliver_18
abbrev rm_X5_clearText : Room := { frames := 1, cells := 0, slots := 0, locals := 21 }
set_option maxHeartbeats 4000000 in
set_option maxRecDepth 100000 in
theorem c_X5_clearText (l : Launch) (G : va_G) (cyI cyO : ClassId) (h : Nat) (Ad At As Ac : Nat → Nat) (L : Nat → Nat → Nat) (C : TS) : CI l G (TY cyI cyO) yX5_clearText wsX5_clearText rm_X5_clearText [.ref (h)] [[(h, .inr (5, [.ref (Ad 0), .ref (At 0), .ref (As 0), .ref (Ac 0), .ref (L 6 0)]))], ctW cyI Ac C] (nI (C.2)) [[(h, .inr (5, [.ref (Ad 0), .ref (At 0), .ref (As 0), .ref (Ac 0), .ref (L 6 0)]))], ctW cyI Ac ((C.1, 0))] := by
  refine wk_I (cc := cX5_clearText) (maxL := 1) (ret := (some .int)) (by decide) rfl (Nat.le_of_ble_eq_true rfl) ?_
  intro p9 e9 s9 m9 b9 t9 c9 A9 ls hx hb hr hts hown hlocks hml hK hA hD hP hl hS hnm
  have hl : lv_has ls 1 [(0, .ref (h))] := hl
  have hinX5 : ∀ w ∈ wsX50, w ∈ wsX5_clearText := by decide +kernel
  have hf29 := hts (.fieldLink RX5 29 "DoorstepRounds" "text" "LDoorstepRounds$ChangeText;") (by decide +kernel)
  refine lv_aload_n hx hb dX5_clearText_0 rfl (lv_at hl 0 rfl) ?_
  refine va_get (v := .ref (Ac 0)) (C := RX5) (T := TX5) (N := 5) hx hb hts hinX5 hown hK hP 0 rfl rfl 3 (by decide) hf29 (fun _ h9 => h9) rfl dX5_clearText_1 ?_
  refine gVi (gs := [[(h, .inr (5, [.ref (Ad 0), .ref (At 0), .ref (As 0), .ref (Ac 0), .ref (L 6 0)]))], ctW cyI Ac C]) (As := []) (rest := []) ⟨hx, hb, hml, hown, hts⟩ (c_X0_empty l G cyI cyO Ac C) (cwV 0 hts gX5_clearText_X0_empty rfl rfl rfl (by decide +kernel) ⟨Nat.le_of_ble_eq_true rfl, Nat.le_of_ble_eq_true rfl⟩) hK hP hD hS hA [1] rfl rfl rfl 0 0 rfl rfl rfl hl.1 rfl (Nat.le_of_ble_eq_true rfl) dX5_clearText_4 ⟨Nat.le_refl _, Nat.le_refl _⟩ (fun H locs hP hD hS => ?_)
  have hP : va_P G vwCl (cat [[(h, .inr (5, [.ref (Ad 0), .ref (At 0), .ref (As 0), .ref (Ac 0), .ref (L 6 0)]))], ctW cyI Ac ((C.1, 0))]) H := hP
  have hD : va_D A9 (cat [[(h, .inr (5, [.ref (Ad 0), .ref (At 0), .ref (As 0), .ref (Ac 0), .ref (L 6 0)]))], ctW cyI Ac ((C.1, 0))]) := hD
  have hP : va_P G vwCl (cat [[(h, .inr (5, [.ref (Ad 0), .ref (At 0), .ref (As 0), .ref (Ac 0), .ref (L 6 0)]))], ctW cyI Ac ((C.1, 0))]) H := hP
  have hD : va_D A9 (cat [[(h, .inr (5, [.ref (Ad 0), .ref (At 0), .ref (As 0), .ref (Ac 0), .ref (L 6 0)]))], ctW cyI Ac ((C.1, 0))]) := hD
  exact end_i hx hb hr hlocks hK hP hD hS (rfl) dX5_clearText_7
abbrev rm_X5_firstError : Room := { frames := 4, cells := 0, slots := 0, locals := 85 }
set_option maxHeartbeats 4000000 in
set_option maxRecDepth 100000 in
theorem c_X5_firstError (l : Launch) (G : va_G) (cyI cyO : ClassId) (h : Nat) (Ad At As Ac : Nat → Nat) (L : Nat → Nat → Nat) (C : TS) (hC : C.2 ≤ 60) : CI l G (TY cyI cyO) yX5_firstError wsX5_firstError rm_X5_firstError [.ref (h)] [[(h, .inr (5, [.ref (Ad 0), .ref (At 0), .ref (As 0), .ref (Ac 0), .ref (L 6 0)]))], ctW cyI Ac C] (nI (ctErr C)) [[(h, .inr (5, [.ref (Ad 0), .ref (At 0), .ref (As 0), .ref (Ac 0), .ref (L 6 0)]))], ctW cyI Ac C] := by
  refine wk_I (cc := cX5_firstError) (maxL := 1) (ret := (some .int)) (by decide) rfl (Nat.le_of_ble_eq_true rfl) ?_
  intro p9 e9 s9 m9 b9 t9 c9 A9 ls hx hb hr hts hown hlocks hml hK hA hD hP hl hS hnm
  have hl : lv_has ls 1 [(0, .ref (h))] := hl
  have hinX5 : ∀ w ∈ wsX50, w ∈ wsX5_firstError := by decide +kernel
  have hf29 := hts (.fieldLink RX5 29 "DoorstepRounds" "text" "LDoorstepRounds$ChangeText;") (by decide +kernel)
  refine lv_aload_n hx hb dX5_firstError_0 rfl (lv_at hl 0 rfl) ?_
  refine va_get (v := .ref (Ac 0)) (C := RX5) (T := TX5) (N := 5) hx hb hts hinX5 hown hK hP 0 rfl rfl 3 (by decide) hf29 (fun _ h9 => h9) rfl dX5_firstError_1 ?_
  refine gVi (gs := [[(h, .inr (5, [.ref (Ad 0), .ref (At 0), .ref (As 0), .ref (Ac 0), .ref (L 6 0)]))], ctW cyI Ac C]) (As := []) (rest := []) ⟨hx, hb, hml, hown, hts⟩ (c_X0_findError l G cyI cyO Ac C (by omega)) (cwV 0 hts gX5_firstError_X0_findError rfl rfl rfl (by decide +kernel) ⟨Nat.le_of_ble_eq_true rfl, Nat.le_of_ble_eq_true rfl⟩) hK hP hD hS hA [1] rfl rfl rfl 0 0 rfl rfl rfl hl.1 rfl (Nat.le_of_ble_eq_true rfl) dX5_firstError_4 ⟨Nat.le_refl _, Nat.le_refl _⟩ (fun H locs hP hD hS => ?_)
  have hP : va_P G vwCl (cat [[(h, .inr (5, [.ref (Ad 0), .ref (At 0), .ref (As 0), .ref (Ac 0), .ref (L 6 0)]))], ctW cyI Ac C]) H := hP
  have hD : va_D A9 (cat [[(h, .inr (5, [.ref (Ad 0), .ref (At 0), .ref (As 0), .ref (Ac 0), .ref (L 6 0)]))], ctW cyI Ac C]) := hD
  have hP : va_P G vwCl (cat [[(h, .inr (5, [.ref (Ad 0), .ref (At 0), .ref (As 0), .ref (Ac 0), .ref (L 6 0)]))], ctW cyI Ac C]) H := hP
  have hD : va_D A9 (cat [[(h, .inr (5, [.ref (Ad 0), .ref (At 0), .ref (As 0), .ref (Ac 0), .ref (L 6 0)]))], ctW cyI Ac C]) := hD
  exact end_i hx hb hr hlocks hK hP hD hS (rfl) dX5_firstError_7
abbrev rm_X5_savedStates : Room := { frames := 1, cells := 0, slots := 0, locals := 20 }
set_option maxHeartbeats 4000000 in
set_option maxRecDepth 100000 in
theorem c_X5_savedStates (l : Launch) (G : va_G) (cyI cyO : ClassId) (h : Nat) (Ad At As Ac : Nat → Nat) (L : Nat → Nat → Nat) (V : HS) : CI l G (TY cyI cyO) yX5_savedStates wsX5_savedStates rm_X5_savedStates [.ref (h)] [[(h, .inr (5, [.ref (Ad 0), .ref (At 0), .ref (As 0), .ref (Ac 0), .ref (L 6 0)]))], hiW cyI cyO L V] (nI (V.1)) [[(h, .inr (5, [.ref (Ad 0), .ref (At 0), .ref (As 0), .ref (Ac 0), .ref (L 6 0)]))], hiW cyI cyO L V] := by
  refine wk_I (cc := cX5_savedStates) (maxL := 1) (ret := (some .int)) (by decide) rfl (Nat.le_of_ble_eq_true rfl) ?_
  intro p9 e9 s9 m9 b9 t9 c9 A9 ls hx hb hr hts hown hlocks hml hK hA hD hP hl hS hnm
  have hl : lv_has ls 1 [(0, .ref (h))] := hl
  have hinX5 : ∀ w ∈ wsX50, w ∈ wsX5_savedStates := by decide +kernel
  have hf36 := hts (.fieldLink RX5 36 "DoorstepRounds" "history" "LDoorstepRounds$History;") (by decide +kernel)
  refine lv_aload_n hx hb dX5_savedStates_0 rfl (lv_at hl 0 rfl) ?_
  refine va_get (v := .ref (L 6 0)) (C := RX5) (T := TX5) (N := 5) hx hb hts hinX5 hown hK hP 0 rfl rfl 4 (by decide) hf36 (fun _ h9 => h9) rfl dX5_savedStates_1 ?_
  have hP : va_P G vwCl (cat [[(h, .inr (5, [.ref (Ad 0), .ref (At 0), .ref (As 0), .ref (Ac 0), .ref (L 6 0)]))], [(L 6 0, .inr (2, [.ref (L 6 1), .int (nI (V.1))]))], [(L 6 1, .inl (cyO, 6, .inr (.inr (.inr (.inr (fun k => some (L k 0)))))))], dyW cyI (L 0) (V.2 0), dyW cyI (L 1) (V.2 1), dyW cyI (L 2) (V.2 2), dyW cyI (L 3) (V.2 3), dyW cyI (L 4) (V.2 4), dyW cyI (L 5) (V.2 5)]) s9.heap := hP
  have hD : va_D A9 (cat [[(h, .inr (5, [.ref (Ad 0), .ref (At 0), .ref (As 0), .ref (Ac 0), .ref (L 6 0)]))], [(L 6 0, .inr (2, [.ref (L 6 1), .int (nI (V.1))]))], [(L 6 1, .inl (cyO, 6, .inr (.inr (.inr (.inr (fun k => some (L k 0)))))))], dyW cyI (L 0) (V.2 0), dyW cyI (L 1) (V.2 1), dyW cyI (L 2) (V.2 2), dyW cyI (L 3) (V.2 3), dyW cyI (L 4) (V.2 4), dyW cyI (L 5) (V.2 5)]) := hD
  refine gVi (gs := [[(h, .inr (5, [.ref (Ad 0), .ref (At 0), .ref (As 0), .ref (Ac 0), .ref (L 6 0)]))], [(L 6 0, .inr (2, [.ref (L 6 1), .int (nI (V.1))]))], [(L 6 1, .inl (cyO, 6, .inr (.inr (.inr (.inr (fun k => some (L k 0)))))))], dyW cyI (L 0) (V.2 0), dyW cyI (L 1) (V.2 1), dyW cyI (L 2) (V.2 2), dyW cyI (L 3) (V.2 3), dyW cyI (L 4) (V.2 4), dyW cyI (L 5) (V.2 5)]) (As := []) (rest := []) ⟨hx, hb, hml, hown, hts⟩ (c_X2_countSaved l G cyI cyO (L 6 0) (L 6 1) V.1 (fun k => some (L k 0))) (cwV 0 hts gX5_savedStates_X2_countSaved rfl rfl rfl (by decide +kernel) ⟨Nat.le_of_ble_eq_true rfl, Nat.le_of_ble_eq_true rfl⟩) hK hP hD hS hA [1, 2] rfl rfl rfl 0 2 rfl rfl rfl hl.1 rfl (Nat.le_of_ble_eq_true rfl) dX5_savedStates_4 ⟨Nat.le_refl _, Nat.le_refl _⟩ (fun H locs hP hD hS => ?_)
  have hP : va_P G vwCl (cat [[(h, .inr (5, [.ref (Ad 0), .ref (At 0), .ref (As 0), .ref (Ac 0), .ref (L 6 0)]))], [(L 6 0, .inr (2, [.ref (L 6 1), .int (nI (V.1))]))], [(L 6 1, .inl (cyO, 6, .inr (.inr (.inr (.inr (fun k => some (L k 0)))))))], dyW cyI (L 0) (V.2 0), dyW cyI (L 1) (V.2 1), dyW cyI (L 2) (V.2 2), dyW cyI (L 3) (V.2 3), dyW cyI (L 4) (V.2 4), dyW cyI (L 5) (V.2 5)]) H := hP
  have hD : va_D A9 (cat [[(h, .inr (5, [.ref (Ad 0), .ref (At 0), .ref (As 0), .ref (Ac 0), .ref (L 6 0)]))], [(L 6 0, .inr (2, [.ref (L 6 1), .int (nI (V.1))]))], [(L 6 1, .inl (cyO, 6, .inr (.inr (.inr (.inr (fun k => some (L k 0)))))))], dyW cyI (L 0) (V.2 0), dyW cyI (L 1) (V.2 1), dyW cyI (L 2) (V.2 2), dyW cyI (L 3) (V.2 3), dyW cyI (L 4) (V.2 4), dyW cyI (L 5) (V.2 5)]) := hD
  have hP : va_P G vwCl (cat [[(h, .inr (5, [.ref (Ad 0), .ref (At 0), .ref (As 0), .ref (Ac 0), .ref (L 6 0)]))], hiW cyI cyO L V]) H := hP
  have hD : va_D A9 (cat [[(h, .inr (5, [.ref (Ad 0), .ref (At 0), .ref (As 0), .ref (Ac 0), .ref (L 6 0)]))], hiW cyI cyO L V]) := hD
  exact end_i hx hb hr hlocks hK hP hD hS (rfl) dX5_savedStates_7
abbrev rm_X5_mayDoPart : Room := { frames := 4, cells := 0, slots := 0, locals := 84 }
set_option maxHeartbeats 4000000 in
set_option maxRecDepth 100000 in
theorem c_X5_mayDoPart (l : Launch) (G : va_G) (cyI cyO : ClassId) (h : Nat) (Ad At As Ac : Nat → Nat) (L : Nat → Nat → Nat) (D : DS) (u : Int32) (v : Nat) (hv : v < 1000) (hk : u = 99 ∨ u = 108 → v < 6) (hn : D.2.2.2.2.2.1 ≤ 20) : CI l G (TY cyI cyO) yX5_mayDoPart wsX5_mayDoPart rm_X5_mayDoPart [.ref (h), .int (u), .int (nI (v))] [[(h, .inr (5, [.ref (Ad 0), .ref (At 0), .ref (As 0), .ref (Ac 0), .ref (L 6 0)]))], dyW cyI Ad D] (bI (pMay D u v)) [[(h, .inr (5, [.ref (Ad 0), .ref (At 0), .ref (As 0), .ref (Ac 0), .ref (L 6 0)]))], dyW cyI Ad D] := by
  refine wk_I (cc := cX5_mayDoPart) (maxL := 3) (ret := (some .boolean)) (by decide) rfl (Nat.le_of_ble_eq_true rfl) ?_
  intro p9 e9 s9 m9 b9 t9 c9 A9 ls hx hb hr hts hown hlocks hml hK hA hD hP hl hS hnm
  have hl : lv_has ls 3 [(0, .ref (h)), (1, .int (u)), (2, .int (nI (v)))] := hl
  have hinX5 : ∀ w ∈ wsX50, w ∈ wsX5_mayDoPart := by decide +kernel
  have hf10 := hts (.fieldLink RX5 10 "DoorstepRounds" "dairy" "LDoorstepRounds$Dairy;") (by decide +kernel)
  have hw6 := cW_le D.2.2.1
  refine lv_iload_n hx hb dX5_mayDoPart_0 rfl (lv_at hl 1 rfl) ?_
  by_cases c_1_43 : u = (43 : Int32)
  · refine lv_lookup (tgt := 68) (off := 67) hx hb dX5_mayDoPart_1 (by decide) (by rw [c_1_43]; rfl) (by decide) ?_
    refine lv_aload_n hx hb dX5_mayDoPart_68 rfl (lv_at hl 0 rfl) ?_
    refine va_get (v := .ref (Ad 0)) (C := RX5) (T := TX5) (N := 5) hx hb hts hinX5 hown hK hP 0 rfl rfl 0 (by decide) hf10 (fun _ h9 => h9) rfl dX5_mayDoPart_69 ?_
    refine gVi (gs := [[(h, .inr (5, [.ref (Ad 0), .ref (At 0), .ref (As 0), .ref (Ac 0), .ref (L 6 0)]))], dyW cyI Ad D]) (As := []) (rest := []) ⟨hx, hb, hml, hown, hts⟩ (c_X1_mayAdd l G cyI cyO Ad D (by omega)) (cwV 0 hts gX5_mayDoPart_X1_mayAdd rfl rfl rfl (by decide +kernel) ⟨Nat.le_of_ble_eq_true rfl, Nat.le_of_ble_eq_true rfl⟩) hK hP hD hS hA [1] rfl rfl rfl 0 1 rfl rfl rfl hl.1 rfl (Nat.le_of_ble_eq_true rfl) dX5_mayDoPart_72 ⟨Nat.le_refl _, Nat.le_refl _⟩ (fun H locs hP hD hS => ?_)
    have hP : va_P G vwCl (cat [[(h, .inr (5, [.ref (Ad 0), .ref (At 0), .ref (As 0), .ref (Ac 0), .ref (L 6 0)]))], dyW cyI Ad D]) H := hP
    have hD : va_D A9 (cat [[(h, .inr (5, [.ref (Ad 0), .ref (At 0), .ref (As 0), .ref (Ac 0), .ref (L 6 0)]))], dyW cyI Ad D]) := hD
    have hP : va_P G vwCl (cat [[(h, .inr (5, [.ref (Ad 0), .ref (At 0), .ref (As 0), .ref (Ac 0), .ref (L 6 0)]))], dyW cyI Ad D]) H := hP
    have hD : va_D A9 (cat [[(h, .inr (5, [.ref (Ad 0), .ref (At 0), .ref (As 0), .ref (Ac 0), .ref (L 6 0)]))], dyW cyI Ad D]) := hD
    exact end_z hx hb hr hlocks hK hP hD hS (by first | (simp [pMay, c_1_43]; done) | (simp [pMay, bI, c_1_43]; done)) (bI_01 _) dX5_mayDoPart_75
  by_cases c_1_45 : u = (45 : Int32)
  · refine lv_lookup (tgt := 76) (off := 75) hx hb dX5_mayDoPart_1 (by decide) (by rw [c_1_45]; rfl) (by decide) ?_
    refine lv_aload_n hx hb dX5_mayDoPart_76 rfl (lv_at hl 0 rfl) ?_
    refine va_get (v := .ref (Ad 0)) (C := RX5) (T := TX5) (N := 5) hx hb hts hinX5 hown hK hP 0 rfl rfl 0 (by decide) hf10 (fun _ h9 => h9) rfl dX5_mayDoPart_77 ?_
    refine lv_iload_n hx hb dX5_mayDoPart_80 rfl (lv_at hl 2 rfl) ?_
    refine gVi (gs := [[(h, .inr (5, [.ref (Ad 0), .ref (At 0), .ref (As 0), .ref (Ac 0), .ref (L 6 0)]))], dyW cyI Ad D]) (As := [.int (nI (v))]) (rest := []) ⟨hx, hb, hml, hown, hts⟩ (c_X1_mayRemove l G cyI cyO Ad D (nI (v))) (cwV 1 hts gX5_mayDoPart_X1_mayRemove rfl rfl rfl (by decide +kernel) ⟨Nat.le_of_ble_eq_true rfl, Nat.le_of_ble_eq_true rfl⟩) hK hP hD hS hA [1] rfl rfl rfl 0 1 rfl rfl rfl hl.1 rfl (Nat.le_of_ble_eq_true rfl) dX5_mayDoPart_81 ⟨Nat.le_refl _, Nat.le_refl _⟩ (fun H locs hP hD hS => ?_)
    have hP : va_P G vwCl (cat [[(h, .inr (5, [.ref (Ad 0), .ref (At 0), .ref (As 0), .ref (Ac 0), .ref (L 6 0)]))], dyW cyI Ad D]) H := hP
    have hD : va_D A9 (cat [[(h, .inr (5, [.ref (Ad 0), .ref (At 0), .ref (As 0), .ref (Ac 0), .ref (L 6 0)]))], dyW cyI Ad D]) := hD
    have hP : va_P G vwCl (cat [[(h, .inr (5, [.ref (Ad 0), .ref (At 0), .ref (As 0), .ref (Ac 0), .ref (L 6 0)]))], dyW cyI Ad D]) H := hP
    have hD : va_D A9 (cat [[(h, .inr (5, [.ref (Ad 0), .ref (At 0), .ref (As 0), .ref (Ac 0), .ref (L 6 0)]))], dyW cyI Ad D]) := hD
    exact end_z hx hb hr hlocks hK hP hD hS (by first | (simp [pMay, c_1_45]; done) | (simp [pMay, bI, c_1_45]; done)) (bI_01 _) dX5_mayDoPart_84
  by_cases c_1_99 : u = (99 : Int32)
  · refine lv_lookup (tgt := 85) (off := 84) hx hb dX5_mayDoPart_1 (by decide) (by rw [c_1_99]; rfl) (by decide) ?_
    have hk6 := hk (Or.inl c_1_99)
    refine lv_aload_n hx hb dX5_mayDoPart_85 rfl (lv_at hl 0 rfl) ?_
    refine va_get (v := .ref (Ad 0)) (C := RX5) (T := TX5) (N := 5) hx hb hts hinX5 hown hK hP 0 rfl rfl 0 (by decide) hf10 (fun _ h9 => h9) rfl dX5_mayDoPart_86 ?_
    refine lv_iload_n hx hb dX5_mayDoPart_89 rfl (lv_at hl 2 rfl) ?_
    refine gVi (gs := [[(h, .inr (5, [.ref (Ad 0), .ref (At 0), .ref (As 0), .ref (Ac 0), .ref (L 6 0)]))], dyW cyI Ad D]) (As := [.int (nI (v))]) (rest := []) ⟨hx, hb, hml, hown, hts⟩ (c_X1_mayCome l G cyI cyO Ad D v (by omega)) (cwV 1 hts gX5_mayDoPart_X1_mayCome rfl rfl rfl (by decide +kernel) ⟨Nat.le_of_ble_eq_true rfl, Nat.le_of_ble_eq_true rfl⟩) hK hP hD hS hA [1] rfl rfl rfl 0 1 rfl rfl rfl hl.1 rfl (Nat.le_of_ble_eq_true rfl) dX5_mayDoPart_90 ⟨Nat.le_refl _, Nat.le_refl _⟩ (fun H locs hP hD hS => ?_)
    have hP : va_P G vwCl (cat [[(h, .inr (5, [.ref (Ad 0), .ref (At 0), .ref (As 0), .ref (Ac 0), .ref (L 6 0)]))], dyW cyI Ad D]) H := hP
    have hD : va_D A9 (cat [[(h, .inr (5, [.ref (Ad 0), .ref (At 0), .ref (As 0), .ref (Ac 0), .ref (L 6 0)]))], dyW cyI Ad D]) := hD
    have hP : va_P G vwCl (cat [[(h, .inr (5, [.ref (Ad 0), .ref (At 0), .ref (As 0), .ref (Ac 0), .ref (L 6 0)]))], dyW cyI Ad D]) H := hP
    have hD : va_D A9 (cat [[(h, .inr (5, [.ref (Ad 0), .ref (At 0), .ref (As 0), .ref (Ac 0), .ref (L 6 0)]))], dyW cyI Ad D]) := hD
    exact end_z hx hb hr hlocks hK hP hD hS (by first | (simp [pMay, c_1_99]; done) | (simp [pMay, bI, c_1_99]; done)) (bI_01 _) dX5_mayDoPart_93
  by_cases c_1_104 : u = (104 : Int32)
  · refine lv_lookup (tgt := 111) (off := 110) hx hb dX5_mayDoPart_1 (by decide) (by rw [c_1_104]; rfl) (by decide) ?_
    refine lv_aload_n hx hb dX5_mayDoPart_111 rfl (lv_at hl 0 rfl) ?_
    refine va_get (v := .ref (Ad 0)) (C := RX5) (T := TX5) (N := 5) hx hb hts hinX5 hown hK hP 0 rfl rfl 0 (by decide) hf10 (fun _ h9 => h9) rfl dX5_mayDoPart_112 ?_
    refine gVi (gs := [[(h, .inr (5, [.ref (Ad 0), .ref (At 0), .ref (As 0), .ref (Ac 0), .ref (L 6 0)]))], dyW cyI Ad D]) (As := []) (rest := []) ⟨hx, hb, hml, hown, hts⟩ (c_X1_isHandingOver l G cyI cyO Ad D) (cwV 0 hts gX5_mayDoPart_X1_isHandingOver rfl rfl rfl (by decide +kernel) ⟨Nat.le_of_ble_eq_true rfl, Nat.le_of_ble_eq_true rfl⟩) hK hP hD hS hA [1] rfl rfl rfl 0 1 rfl rfl rfl hl.1 rfl (Nat.le_of_ble_eq_true rfl) dX5_mayDoPart_115 ⟨Nat.le_refl _, Nat.le_refl _⟩ (fun H locs hP hD hS => ?_)
    have hP : va_P G vwCl (cat [[(h, .inr (5, [.ref (Ad 0), .ref (At 0), .ref (As 0), .ref (Ac 0), .ref (L 6 0)]))], dyW cyI Ad D]) H := hP
    have hD : va_D A9 (cat [[(h, .inr (5, [.ref (Ad 0), .ref (At 0), .ref (As 0), .ref (Ac 0), .ref (L 6 0)]))], dyW cyI Ad D]) := hD
    have hP : va_P G vwCl (cat [[(h, .inr (5, [.ref (Ad 0), .ref (At 0), .ref (As 0), .ref (Ac 0), .ref (L 6 0)]))], dyW cyI Ad D]) H := hP
    have hD : va_D A9 (cat [[(h, .inr (5, [.ref (Ad 0), .ref (At 0), .ref (As 0), .ref (Ac 0), .ref (L 6 0)]))], dyW cyI Ad D]) := hD
    exact end_z hx hb hr hlocks hK hP hD hS (by first | (simp [pMay, c_1_104]; done) | (simp [pMay, bI, c_1_104]; done)) (bI_01 _) dX5_mayDoPart_118
  by_cases c_1_108 : u = (108 : Int32)
  · refine lv_lookup (tgt := 94) (off := 93) hx hb dX5_mayDoPart_1 (by decide) (by rw [c_1_108]; rfl) (by decide) ?_
    have hk6 := hk (Or.inr c_1_108)
    refine lv_aload_n hx hb dX5_mayDoPart_94 rfl (lv_at hl 0 rfl) ?_
    refine va_get (v := .ref (Ad 0)) (C := RX5) (T := TX5) (N := 5) hx hb hts hinX5 hown hK hP 0 rfl rfl 0 (by decide) hf10 (fun _ h9 => h9) rfl dX5_mayDoPart_95 ?_
    refine lv_iload_n hx hb dX5_mayDoPart_98 rfl (lv_at hl 2 rfl) ?_
    refine gVi (gs := [[(h, .inr (5, [.ref (Ad 0), .ref (At 0), .ref (As 0), .ref (Ac 0), .ref (L 6 0)]))], dyW cyI Ad D]) (As := [.int (nI (v))]) (rest := []) ⟨hx, hb, hml, hown, hts⟩ (c_X1_mayLeave l G cyI cyO Ad D v (by omega)) (cwV 1 hts gX5_mayDoPart_X1_mayLeave rfl rfl rfl (by decide +kernel) ⟨Nat.le_of_ble_eq_true rfl, Nat.le_of_ble_eq_true rfl⟩) hK hP hD hS hA [1] rfl rfl rfl 0 1 rfl rfl rfl hl.1 rfl (Nat.le_of_ble_eq_true rfl) dX5_mayDoPart_99 ⟨Nat.le_refl _, Nat.le_refl _⟩ (fun H locs hP hD hS => ?_)
    have hP : va_P G vwCl (cat [[(h, .inr (5, [.ref (Ad 0), .ref (At 0), .ref (As 0), .ref (Ac 0), .ref (L 6 0)]))], dyW cyI Ad D]) H := hP
    have hD : va_D A9 (cat [[(h, .inr (5, [.ref (Ad 0), .ref (At 0), .ref (As 0), .ref (Ac 0), .ref (L 6 0)]))], dyW cyI Ad D]) := hD
    have hP : va_P G vwCl (cat [[(h, .inr (5, [.ref (Ad 0), .ref (At 0), .ref (As 0), .ref (Ac 0), .ref (L 6 0)]))], dyW cyI Ad D]) H := hP
    have hD : va_D A9 (cat [[(h, .inr (5, [.ref (Ad 0), .ref (At 0), .ref (As 0), .ref (Ac 0), .ref (L 6 0)]))], dyW cyI Ad D]) := hD
    exact end_z hx hb hr hlocks hK hP hD hS (by first | (simp [pMay, c_1_108]; done) | (simp [pMay, bI, c_1_108]; done)) (bI_01 _) dX5_mayDoPart_102
  by_cases c_1_112 : u = (112 : Int32)
  · refine lv_lookup (tgt := 103) (off := 102) hx hb dX5_mayDoPart_1 (by decide) (by rw [c_1_112]; rfl) (by decide) ?_
    refine lv_aload_n hx hb dX5_mayDoPart_103 rfl (lv_at hl 0 rfl) ?_
    refine va_get (v := .ref (Ad 0)) (C := RX5) (T := TX5) (N := 5) hx hb hts hinX5 hown hK hP 0 rfl rfl 0 (by decide) hf10 (fun _ h9 => h9) rfl dX5_mayDoPart_104 ?_
    refine gVi (gs := [[(h, .inr (5, [.ref (Ad 0), .ref (At 0), .ref (As 0), .ref (Ac 0), .ref (L 6 0)]))], dyW cyI Ad D]) (As := []) (rest := []) ⟨hx, hb, hml, hown, hts⟩ (c_X1_mayPlan l G cyI cyO Ad D) (cwV 0 hts gX5_mayDoPart_X1_mayPlan rfl rfl rfl (by decide +kernel) ⟨Nat.le_of_ble_eq_true rfl, Nat.le_of_ble_eq_true rfl⟩) hK hP hD hS hA [1] rfl rfl rfl 0 1 rfl rfl rfl hl.1 rfl (Nat.le_of_ble_eq_true rfl) dX5_mayDoPart_107 ⟨Nat.le_refl _, Nat.le_refl _⟩ (fun H locs hP hD hS => ?_)
    have hP : va_P G vwCl (cat [[(h, .inr (5, [.ref (Ad 0), .ref (At 0), .ref (As 0), .ref (Ac 0), .ref (L 6 0)]))], dyW cyI Ad D]) H := hP
    have hD : va_D A9 (cat [[(h, .inr (5, [.ref (Ad 0), .ref (At 0), .ref (As 0), .ref (Ac 0), .ref (L 6 0)]))], dyW cyI Ad D]) := hD
    have hP : va_P G vwCl (cat [[(h, .inr (5, [.ref (Ad 0), .ref (At 0), .ref (As 0), .ref (Ac 0), .ref (L 6 0)]))], dyW cyI Ad D]) H := hP
    have hD : va_D A9 (cat [[(h, .inr (5, [.ref (Ad 0), .ref (At 0), .ref (As 0), .ref (Ac 0), .ref (L 6 0)]))], dyW cyI Ad D]) := hD
    exact end_z hx hb hr hlocks hK hP hD hS (by first | (simp [pMay, c_1_112]; done) | (simp [pMay, bI, c_1_112]; done)) (bI_01 _) dX5_mayDoPart_110
  by_cases c_1_120 : u = (120 : Int32)
  · refine lv_lookup (tgt := 119) (off := 118) hx hb dX5_mayDoPart_1 (by decide) (by rw [c_1_120]; rfl) (by decide) ?_
    refine lv_aload_n hx hb dX5_mayDoPart_119 rfl (lv_at hl 0 rfl) ?_
    refine va_get (v := .ref (Ad 0)) (C := RX5) (T := TX5) (N := 5) hx hb hts hinX5 hown hK hP 0 rfl rfl 0 (by decide) hf10 (fun _ h9 => h9) rfl dX5_mayDoPart_120 ?_
    refine gVi (gs := [[(h, .inr (5, [.ref (Ad 0), .ref (At 0), .ref (As 0), .ref (Ac 0), .ref (L 6 0)]))], dyW cyI Ad D]) (As := []) (rest := []) ⟨hx, hb, hml, hown, hts⟩ (c_X1_isHandingOver l G cyI cyO Ad D) (cwV 0 hts gX5_mayDoPart_X1_isHandingOver rfl rfl rfl (by decide +kernel) ⟨Nat.le_of_ble_eq_true rfl, Nat.le_of_ble_eq_true rfl⟩) hK hP hD hS hA [1] rfl rfl rfl 0 1 rfl rfl rfl hl.1 rfl (Nat.le_of_ble_eq_true rfl) dX5_mayDoPart_123 ⟨Nat.le_refl _, Nat.le_refl _⟩ (fun H locs hP hD hS => ?_)
    have hP : va_P G vwCl (cat [[(h, .inr (5, [.ref (Ad 0), .ref (At 0), .ref (As 0), .ref (Ac 0), .ref (L 6 0)]))], dyW cyI Ad D]) H := hP
    have hD : va_D A9 (cat [[(h, .inr (5, [.ref (Ad 0), .ref (At 0), .ref (As 0), .ref (Ac 0), .ref (L 6 0)]))], dyW cyI Ad D]) := hD
    have hP : va_P G vwCl (cat [[(h, .inr (5, [.ref (Ad 0), .ref (At 0), .ref (As 0), .ref (Ac 0), .ref (L 6 0)]))], dyW cyI Ad D]) H := hP
    have hD : va_D A9 (cat [[(h, .inr (5, [.ref (Ad 0), .ref (At 0), .ref (As 0), .ref (Ac 0), .ref (L 6 0)]))], dyW cyI Ad D]) := hD
    exact end_z hx hb hr hlocks hK hP hD hS (by first | (simp [pMay, c_1_120]; done) | (simp [pMay, bI, c_1_120]; done)) (bI_01 _) dX5_mayDoPart_126
  refine lv_lookup (tgt := 127) (off := 126) hx hb dX5_mayDoPart_1 (by decide) (by show Op.lookupswitch.offset [(43, 67), (45, 75), (99, 84), (104, 110), (108, 93), (112, 102), (120, 118)] 126 _ = 126; rw [lo_ne (n := 43) c_1_43 (by decide), lo_ne (n := 45) c_1_45 (by decide), lo_ne (n := 99) c_1_99 (by decide), lo_ne (n := 104) c_1_104 (by decide), lo_ne (n := 108) c_1_108 (by decide), lo_ne (n := 112) c_1_112 (by decide), lo_ne (n := 120) c_1_120 (by decide)]; rfl) (by decide) ?_
  refine lv_iconst (v := (1 : Int32)) hx hb dX5_mayDoPart_127 (by decide) ?_
  have hP : va_P G vwCl (cat [[(h, .inr (5, [.ref (Ad 0), .ref (At 0), .ref (As 0), .ref (Ac 0), .ref (L 6 0)]))], dyW cyI Ad D]) s9.heap := hP
  have hD : va_D A9 (cat [[(h, .inr (5, [.ref (Ad 0), .ref (At 0), .ref (As 0), .ref (Ac 0), .ref (L 6 0)]))], dyW cyI Ad D]) := hD
  exact end_z hx hb hr hlocks hK hP hD hS (by first | (simp [pMay, c_1_43, c_1_45, c_1_99, c_1_104, c_1_108, c_1_112, c_1_120]; done) | (simp [pMay, bI, c_1_43, c_1_45, c_1_99, c_1_104, c_1_108, c_1_112, c_1_120]; done)) (Or.inr rfl) dX5_mayDoPart_128
abbrev rm_X5_doPart : Room := { frames := 5, cells := 0, slots := 0, locals := 113 }
set_option maxHeartbeats 4000000 in
set_option maxRecDepth 100000 in
theorem c_X5_doPart (l : Launch) (G : va_G) (cyI cyO : ClassId) (h : Nat) (Ad At As Ac : Nat → Nat) (L : Nat → Nat → Nat) (S : SS) (D : DS) (u : Int32) (v : Nat) (hv : v < 1000) (hk : u = 99 ∨ u = 108 → v < 6) (hn : D.2.2.2.2.2.1 ≤ 20) : CI l G (TY cyI cyO) yX5_doPart wsX5_doPart rm_X5_doPart [.ref (h), .int (u), .int (nI (v))] [[(h, .inr (5, [.ref (Ad 0), .ref (At 0), .ref (As 0), .ref (Ac 0), .ref (L 6 0)]))], shW cyI As S, dyW cyI Ad D] (bI (pMay D u v)) [[(h, .inr (5, [.ref (Ad 0), .ref (At 0), .ref (As 0), .ref (Ac 0), .ref (L 6 0)]))], shW cyI As ((pGo S D u v).1), dyW cyI Ad ((pGo S D u v).2)] := by
  refine wk_I (cc := cX5_doPart) (maxL := 3) (ret := (some .boolean)) (by decide) rfl (Nat.le_of_ble_eq_true rfl) ?_
  intro p9 e9 s9 m9 b9 t9 c9 A9 ls hx hb hr hts hown hlocks hml hK hA hD hP hl hS hnm
  have hl : lv_has ls 3 [(0, .ref (h)), (1, .int (u)), (2, .int (nI (v)))] := hl
  have hinX5 : ∀ w ∈ wsX50, w ∈ wsX5_doPart := by decide +kernel
  have hf10 := hts (.fieldLink RX5 10 "DoorstepRounds" "dairy" "LDoorstepRounds$Dairy;") (by decide +kernel)
  refine lv_aload_n hx hb dX5_doPart_0 rfl (lv_at hl 0 rfl) ?_
  refine lv_iload_n hx hb dX5_doPart_1 rfl (lv_at hl 1 rfl) ?_
  refine lv_iload_n hx hb dX5_doPart_2 rfl (lv_at hl 2 rfl) ?_
  refine gVi (gs := [[(h, .inr (5, [.ref (Ad 0), .ref (At 0), .ref (As 0), .ref (Ac 0), .ref (L 6 0)]))], shW cyI As S, dyW cyI Ad D]) (As := [.int (u), .int (nI (v))]) (rest := []) ⟨hx, hb, hml, hown, hts⟩ (c_X5_mayDoPart l G cyI cyO h Ad At As Ac L D u v (by omega) (by omega) (by omega)) (cwV 2 hts gX5_doPart_X5_mayDoPart rfl rfl rfl (by decide +kernel) ⟨Nat.le_of_ble_eq_true rfl, Nat.le_of_ble_eq_true rfl⟩) hK hP hD hS hA [0, 2] rfl rfl rfl 0 5 rfl rfl rfl hl.1 rfl (Nat.le_of_ble_eq_true rfl) dX5_doPart_3 ⟨Nat.le_refl _, Nat.le_refl _⟩ (fun H locs hP hD hS => ?_)
  have hP : va_P G vwCl (cat [[(h, .inr (5, [.ref (Ad 0), .ref (At 0), .ref (As 0), .ref (Ac 0), .ref (L 6 0)]))], shW cyI As S, dyW cyI Ad D]) H := hP
  have hD : va_D A9 (cat [[(h, .inr (5, [.ref (Ad 0), .ref (At 0), .ref (As 0), .ref (Ac 0), .ref (L 6 0)]))], shW cyI As S, dyW cyI Ad D]) := hD
  refine lv_if_ne (tgt := 11) hx hb dX5_doPart_6 (by decide) (fun c_6 => ?_) (fun c_6 => ?_)
  · have c_6 : (pMay D u v) = true := bI_nz.mp c_6
    have ep : pGo S D u v = pDo S D u v := if_pos c_6
    refine lv_iload_n hx hb dX5_doPart_11 rfl (lv_at hl 1 rfl) ?_
    by_cases c_12_43 : u = (43 : Int32)
    · refine lv_lookup (tgt := 80) (off := 68) hx hb dX5_doPart_12 (by decide) (by rw [c_12_43]; rfl) (by decide) ?_
      have hm := (pMay_43 D v (u := u) c_12_43).symm.trans c_6
      have ew := pDo_43 S D v (u := u) c_12_43
      have hm20 := mayAdd_lt hm
      refine lv_aload_n hx hb dX5_doPart_80 rfl (lv_at hl 0 rfl) ?_
      refine va_get (v := .ref (Ad 0)) (C := RX5) (T := TX5) (N := 5) hx hb hts hinX5 hown hK hP 0 rfl rfl 0 (by decide) hf10 (fun _ h9 => h9) rfl dX5_doPart_81 ?_
      refine lv_iload_n hx hb dX5_doPart_84 rfl (lv_at hl 2 rfl) ?_
      refine gVi (gs := [[(h, .inr (5, [.ref (Ad 0), .ref (At 0), .ref (As 0), .ref (Ac 0), .ref (L 6 0)]))], shW cyI As S, dyW cyI Ad D]) (As := [.int (nI (v))]) (rest := []) ⟨hx, hb, hml, hown, hts⟩ (c_X1_addOne l G cyI cyO Ad D (nI (v)) (hm20)) (cwV 1 hts gX5_doPart_X1_addOne rfl rfl rfl (by decide +kernel) ⟨Nat.le_of_ble_eq_true rfl, Nat.le_of_ble_eq_true rfl⟩) hK hP hD hS hA [2] rfl rfl rfl 0 1 rfl rfl rfl hl.1 rfl (Nat.le_of_ble_eq_true rfl) dX5_doPart_85 ⟨Nat.le_refl _, Nat.le_refl _⟩ (fun H locs hP hD hS => ?_)
      have hP : va_P G vwCl (cat [[(h, .inr (5, [.ref (Ad 0), .ref (At 0), .ref (As 0), .ref (Ac 0), .ref (L 6 0)]))], shW cyI As S, dyW cyI Ad ((upd D.1 D.2.2.2.2.2.1 (nI (v)), upd D.2.1 D.2.2.2.2.2.1 (-1), D.2.2.1, D.2.2.2.1, D.2.2.2.2.1, D.2.2.2.2.2.1 + 1, D.2.2.2.2.2.2.1, D.2.2.2.2.2.2.2.1, D.2.2.2.2.2.2.2.2.1, D.2.2.2.2.2.2.2.2.2))]) H := hP
      have hD : va_D A9 (cat [[(h, .inr (5, [.ref (Ad 0), .ref (At 0), .ref (As 0), .ref (Ac 0), .ref (L 6 0)]))], shW cyI As S, dyW cyI Ad ((upd D.1 D.2.2.2.2.2.1 (nI (v)), upd D.2.1 D.2.2.2.2.2.1 (-1), D.2.2.1, D.2.2.2.1, D.2.2.2.2.1, D.2.2.2.2.2.1 + 1, D.2.2.2.2.2.2.1, D.2.2.2.2.2.2.2.1, D.2.2.2.2.2.2.2.2.1, D.2.2.2.2.2.2.2.2.2))]) := hD
      refine lv_pop hx hb dX5_doPart_88 rfl ?_
      refine lv_goto (tgt := 166) hx hb dX5_doPart_89 (by decide) ?_
      refine lv_iconst (v := (1 : Int32)) hx hb dX5_doPart_166 (by decide) ?_
      have hgo : cat [[(h, .inr (5, [.ref (Ad 0), .ref (At 0), .ref (As 0), .ref (Ac 0), .ref (L 6 0)]))], shW cyI As S, dyW cyI Ad ((upd D.1 D.2.2.2.2.2.1 (nI (v)), upd D.2.1 D.2.2.2.2.2.1 (-1), D.2.2.1, D.2.2.2.1, D.2.2.2.2.1, D.2.2.2.2.2.1 + 1, D.2.2.2.2.2.2.1, D.2.2.2.2.2.2.2.1, D.2.2.2.2.2.2.2.2.1, D.2.2.2.2.2.2.2.2.2))] = cat [[(h, .inr (5, [.ref (Ad 0), .ref (At 0), .ref (As 0), .ref (Ac 0), .ref (L 6 0)]))], shW cyI As ((pGo S D u v).1), dyW cyI Ad ((pGo S D u v).2)] := by rw [ep, ew] <;> rfl
      rw [hgo] at hP hD
      have hP : va_P G vwCl (cat [[(h, .inr (5, [.ref (Ad 0), .ref (At 0), .ref (As 0), .ref (Ac 0), .ref (L 6 0)]))], shW cyI As ((pGo S D u v).1), dyW cyI Ad ((pGo S D u v).2)]) H := hP
      have hD : va_D A9 (cat [[(h, .inr (5, [.ref (Ad 0), .ref (At 0), .ref (As 0), .ref (Ac 0), .ref (L 6 0)]))], shW cyI As ((pGo S D u v).1), dyW cyI Ad ((pGo S D u v).2)]) := hD
      exact end_z hx hb hr hlocks hK hP hD hS (by rw [c_6] <;> rfl) (Or.inr rfl) dX5_doPart_167
    by_cases c_12_45 : u = (45 : Int32)
    · refine lv_lookup (tgt := 92) (off := 80) hx hb dX5_doPart_12 (by decide) (by rw [c_12_45]; rfl) (by decide) ?_
      have hm := (pMay_45 D v (u := u) c_12_45).symm.trans c_6
      have ew := pDo_45 S D v (u := u) c_12_45
      have hmn := mayRem_lt hv hn hm
      refine lv_aload_n hx hb dX5_doPart_92 rfl (lv_at hl 0 rfl) ?_
      refine va_get (v := .ref (Ad 0)) (C := RX5) (T := TX5) (N := 5) hx hb hts hinX5 hown hK hP 0 rfl rfl 0 (by decide) hf10 (fun _ h9 => h9) rfl dX5_doPart_93 ?_
      refine lv_iload_n hx hb dX5_doPart_96 rfl (lv_at hl 2 rfl) ?_
      refine gVi (gs := [[(h, .inr (5, [.ref (Ad 0), .ref (At 0), .ref (As 0), .ref (Ac 0), .ref (L 6 0)]))], shW cyI As S, dyW cyI Ad D]) (As := [.int (nI (v))]) (rest := []) ⟨hx, hb, hml, hown, hts⟩ (c_X1_removeOne l G cyI cyO Ad D v (by omega) (hmn)) (cwV 1 hts gX5_doPart_X1_removeOne rfl rfl rfl (by decide +kernel) ⟨Nat.le_of_ble_eq_true rfl, Nat.le_of_ble_eq_true rfl⟩) hK hP hD hS hA [2] rfl rfl rfl 0 1 rfl rfl rfl hl.1 rfl (Nat.le_of_ble_eq_true rfl) dX5_doPart_97 ⟨Nat.le_refl _, Nat.le_refl _⟩ (fun H locs hP hD hS => ?_)
      have hP : va_P G vwCl (cat [[(h, .inr (5, [.ref (Ad 0), .ref (At 0), .ref (As 0), .ref (Ac 0), .ref (L 6 0)]))], shW cyI As S, dyW cyI Ad ((rowGap D.1 20 v, rowGap D.2.1 20 v, D.2.2.1, D.2.2.2.1, D.2.2.2.2.1, D.2.2.2.2.2.1 - 1, D.2.2.2.2.2.2.1, D.2.2.2.2.2.2.2.1, D.2.2.2.2.2.2.2.2.1, D.2.2.2.2.2.2.2.2.2))]) H := hP
      have hD : va_D A9 (cat [[(h, .inr (5, [.ref (Ad 0), .ref (At 0), .ref (As 0), .ref (Ac 0), .ref (L 6 0)]))], shW cyI As S, dyW cyI Ad ((rowGap D.1 20 v, rowGap D.2.1 20 v, D.2.2.1, D.2.2.2.1, D.2.2.2.2.1, D.2.2.2.2.2.1 - 1, D.2.2.2.2.2.2.1, D.2.2.2.2.2.2.2.1, D.2.2.2.2.2.2.2.2.1, D.2.2.2.2.2.2.2.2.2))]) := hD
      refine lv_pop hx hb dX5_doPart_100 rfl ?_
      refine lv_goto (tgt := 166) hx hb dX5_doPart_101 (by decide) ?_
      refine lv_iconst (v := (1 : Int32)) hx hb dX5_doPart_166 (by decide) ?_
      have hgo : cat [[(h, .inr (5, [.ref (Ad 0), .ref (At 0), .ref (As 0), .ref (Ac 0), .ref (L 6 0)]))], shW cyI As S, dyW cyI Ad ((rowGap D.1 20 v, rowGap D.2.1 20 v, D.2.2.1, D.2.2.2.1, D.2.2.2.2.1, D.2.2.2.2.2.1 - 1, D.2.2.2.2.2.2.1, D.2.2.2.2.2.2.2.1, D.2.2.2.2.2.2.2.2.1, D.2.2.2.2.2.2.2.2.2))] = cat [[(h, .inr (5, [.ref (Ad 0), .ref (At 0), .ref (As 0), .ref (Ac 0), .ref (L 6 0)]))], shW cyI As ((pGo S D u v).1), dyW cyI Ad ((pGo S D u v).2)] := by rw [ep, ew] <;> rfl
      rw [hgo] at hP hD
      have hP : va_P G vwCl (cat [[(h, .inr (5, [.ref (Ad 0), .ref (At 0), .ref (As 0), .ref (Ac 0), .ref (L 6 0)]))], shW cyI As ((pGo S D u v).1), dyW cyI Ad ((pGo S D u v).2)]) H := hP
      have hD : va_D A9 (cat [[(h, .inr (5, [.ref (Ad 0), .ref (At 0), .ref (As 0), .ref (Ac 0), .ref (L 6 0)]))], shW cyI As ((pGo S D u v).1), dyW cyI Ad ((pGo S D u v).2)]) := hD
      exact end_z hx hb hr hlocks hK hP hD hS (by rw [c_6] <;> rfl) (Or.inr rfl) dX5_doPart_167
    by_cases c_12_99 : u = (99 : Int32)
    · refine lv_lookup (tgt := 104) (off := 92) hx hb dX5_doPart_12 (by decide) (by rw [c_12_99]; rfl) (by decide) ?_
      have hm := (pMay_99 D v (u := u) c_12_99).symm.trans c_6
      have ew := pDo_99 S D v (u := u) c_12_99
      have hk6 := hk (Or.inl c_12_99)
      refine lv_aload_n hx hb dX5_doPart_104 rfl (lv_at hl 0 rfl) ?_
      refine va_get (v := .ref (Ad 0)) (C := RX5) (T := TX5) (N := 5) hx hb hts hinX5 hown hK hP 0 rfl rfl 0 (by decide) hf10 (fun _ h9 => h9) rfl dX5_doPart_105 ?_
      refine lv_iload_n hx hb dX5_doPart_108 rfl (lv_at hl 2 rfl) ?_
      refine gVi (gs := [[(h, .inr (5, [.ref (Ad 0), .ref (At 0), .ref (As 0), .ref (Ac 0), .ref (L 6 0)]))], shW cyI As S, dyW cyI Ad D]) (As := [.int (nI (v))]) (rest := []) ⟨hx, hb, hml, hown, hts⟩ (c_X1_welcome l G cyI cyO Ad D v (by omega)) (cwV 1 hts gX5_doPart_X1_welcome rfl rfl rfl (by decide +kernel) ⟨Nat.le_of_ble_eq_true rfl, Nat.le_of_ble_eq_true rfl⟩) hK hP hD hS hA [2] rfl rfl rfl 0 1 rfl rfl rfl hl.1 rfl (Nat.le_of_ble_eq_true rfl) dX5_doPart_109 ⟨Nat.le_refl _, Nat.le_refl _⟩ (fun H locs hP hD hS => ?_)
      have hP : va_P G vwCl (cat [[(h, .inr (5, [.ref (Ad 0), .ref (At 0), .ref (As 0), .ref (Ac 0), .ref (L 6 0)]))], shW cyI As S, dyW cyI Ad ((D.1, D.2.1, upd D.2.2.1 v 1, D.2.2.2.1, D.2.2.2.2.1, D.2.2.2.2.2.1, D.2.2.2.2.2.2.1, D.2.2.2.2.2.2.2.1, D.2.2.2.2.2.2.2.2.1, D.2.2.2.2.2.2.2.2.2))]) H := hP
      have hD : va_D A9 (cat [[(h, .inr (5, [.ref (Ad 0), .ref (At 0), .ref (As 0), .ref (Ac 0), .ref (L 6 0)]))], shW cyI As S, dyW cyI Ad ((D.1, D.2.1, upd D.2.2.1 v 1, D.2.2.2.1, D.2.2.2.2.1, D.2.2.2.2.2.1, D.2.2.2.2.2.2.1, D.2.2.2.2.2.2.2.1, D.2.2.2.2.2.2.2.2.1, D.2.2.2.2.2.2.2.2.2))]) := hD
      refine lv_pop hx hb dX5_doPart_112 rfl ?_
      refine lv_goto (tgt := 166) hx hb dX5_doPart_113 (by decide) ?_
      refine lv_iconst (v := (1 : Int32)) hx hb dX5_doPart_166 (by decide) ?_
      have hgo : cat [[(h, .inr (5, [.ref (Ad 0), .ref (At 0), .ref (As 0), .ref (Ac 0), .ref (L 6 0)]))], shW cyI As S, dyW cyI Ad ((D.1, D.2.1, upd D.2.2.1 v 1, D.2.2.2.1, D.2.2.2.2.1, D.2.2.2.2.2.1, D.2.2.2.2.2.2.1, D.2.2.2.2.2.2.2.1, D.2.2.2.2.2.2.2.2.1, D.2.2.2.2.2.2.2.2.2))] = cat [[(h, .inr (5, [.ref (Ad 0), .ref (At 0), .ref (As 0), .ref (Ac 0), .ref (L 6 0)]))], shW cyI As ((pGo S D u v).1), dyW cyI Ad ((pGo S D u v).2)] := by rw [ep, ew] <;> rfl
      rw [hgo] at hP hD
      have hP : va_P G vwCl (cat [[(h, .inr (5, [.ref (Ad 0), .ref (At 0), .ref (As 0), .ref (Ac 0), .ref (L 6 0)]))], shW cyI As ((pGo S D u v).1), dyW cyI Ad ((pGo S D u v).2)]) H := hP
      have hD : va_D A9 (cat [[(h, .inr (5, [.ref (Ad 0), .ref (At 0), .ref (As 0), .ref (Ac 0), .ref (L 6 0)]))], shW cyI As ((pGo S D u v).1), dyW cyI Ad ((pGo S D u v).2)]) := hD
      exact end_z hx hb hr hlocks hK hP hD hS (by rw [c_6] <;> rfl) (Or.inr rfl) dX5_doPart_167
    by_cases c_12_104 : u = (104 : Int32)
    · refine lv_lookup (tgt := 136) (off := 124) hx hb dX5_doPart_12 (by decide) (by rw [c_12_104]; rfl) (by decide) ?_
      have ew := pDo_104 S D v (u := u) c_12_104
      refine lv_aload_n hx hb dX5_doPart_136 rfl (lv_at hl 0 rfl) ?_
      refine va_get (v := .ref (Ad 0)) (C := RX5) (T := TX5) (N := 5) hx hb hts hinX5 hown hK hP 0 rfl rfl 0 (by decide) hf10 (fun _ h9 => h9) rfl dX5_doPart_137 ?_
      refine gVi (gs := [[(h, .inr (5, [.ref (Ad 0), .ref (At 0), .ref (As 0), .ref (Ac 0), .ref (L 6 0)]))], shW cyI As S, dyW cyI Ad D]) (As := []) (rest := []) ⟨hx, hb, hml, hown, hts⟩ (c_X1_doNextStep l G cyI cyO Ad D (by omega)) (cwV 0 hts gX5_doPart_X1_doNextStep rfl rfl rfl (by decide +kernel) ⟨Nat.le_of_ble_eq_true rfl, Nat.le_of_ble_eq_true rfl⟩) hK hP hD hS hA [2] rfl rfl rfl 0 1 rfl rfl rfl hl.1 rfl (Nat.le_of_ble_eq_true rfl) dX5_doPart_140 ⟨Nat.le_refl _, Nat.le_refl _⟩ (fun H locs hP hD hS => ?_)
      have hP : va_P G vwCl (cat [[(h, .inr (5, [.ref (Ad 0), .ref (At 0), .ref (As 0), .ref (Ac 0), .ref (L 6 0)]))], shW cyI As S, dyW cyI Ad (dNext D)]) H := hP
      have hD : va_D A9 (cat [[(h, .inr (5, [.ref (Ad 0), .ref (At 0), .ref (As 0), .ref (Ac 0), .ref (L 6 0)]))], shW cyI As S, dyW cyI Ad (dNext D)]) := hD
      refine lv_pop hx hb dX5_doPart_143 rfl ?_
      refine lv_goto (tgt := 166) hx hb dX5_doPart_144 (by decide) ?_
      refine lv_iconst (v := (1 : Int32)) hx hb dX5_doPart_166 (by decide) ?_
      have hgo : cat [[(h, .inr (5, [.ref (Ad 0), .ref (At 0), .ref (As 0), .ref (Ac 0), .ref (L 6 0)]))], shW cyI As S, dyW cyI Ad (dNext D)] = cat [[(h, .inr (5, [.ref (Ad 0), .ref (At 0), .ref (As 0), .ref (Ac 0), .ref (L 6 0)]))], shW cyI As ((pGo S D u v).1), dyW cyI Ad ((pGo S D u v).2)] := by rw [ep, ew] <;> rfl
      rw [hgo] at hP hD
      have hP : va_P G vwCl (cat [[(h, .inr (5, [.ref (Ad 0), .ref (At 0), .ref (As 0), .ref (Ac 0), .ref (L 6 0)]))], shW cyI As ((pGo S D u v).1), dyW cyI Ad ((pGo S D u v).2)]) H := hP
      have hD : va_D A9 (cat [[(h, .inr (5, [.ref (Ad 0), .ref (At 0), .ref (As 0), .ref (Ac 0), .ref (L 6 0)]))], shW cyI As ((pGo S D u v).1), dyW cyI Ad ((pGo S D u v).2)]) := hD
      exact end_z hx hb hr hlocks hK hP hD hS (by rw [c_6] <;> rfl) (Or.inr rfl) dX5_doPart_167
    by_cases c_12_108 : u = (108 : Int32)
    · refine lv_lookup (tgt := 116) (off := 104) hx hb dX5_doPart_12 (by decide) (by rw [c_12_108]; rfl) (by decide) ?_
      have hm := (pMay_108 D v (u := u) c_12_108).symm.trans c_6
      have ew := pDo_108 S D v (u := u) c_12_108
      have hk6 := hk (Or.inr c_12_108)
      refine lv_aload_n hx hb dX5_doPart_116 rfl (lv_at hl 0 rfl) ?_
      refine va_get (v := .ref (Ad 0)) (C := RX5) (T := TX5) (N := 5) hx hb hts hinX5 hown hK hP 0 rfl rfl 0 (by decide) hf10 (fun _ h9 => h9) rfl dX5_doPart_117 ?_
      refine lv_iload_n hx hb dX5_doPart_120 rfl (lv_at hl 2 rfl) ?_
      refine gVi (gs := [[(h, .inr (5, [.ref (Ad 0), .ref (At 0), .ref (As 0), .ref (Ac 0), .ref (L 6 0)]))], shW cyI As S, dyW cyI Ad D]) (As := [.int (nI (v))]) (rest := []) ⟨hx, hb, hml, hown, hts⟩ (c_X1_dismiss l G cyI cyO Ad D v (by omega) (by omega)) (cwV 1 hts gX5_doPart_X1_dismiss rfl rfl rfl (by decide +kernel) ⟨Nat.le_of_ble_eq_true rfl, Nat.le_of_ble_eq_true rfl⟩) hK hP hD hS hA [2] rfl rfl rfl 0 1 rfl rfl rfl hl.1 rfl (Nat.le_of_ble_eq_true rfl) dX5_doPart_121 ⟨Nat.le_refl _, Nat.le_refl _⟩ (fun H locs hP hD hS => ?_)
      have hP : va_P G vwCl (cat [[(h, .inr (5, [.ref (Ad 0), .ref (At 0), .ref (As 0), .ref (Ac 0), .ref (L 6 0)]))], shW cyI As S, dyW cyI Ad ((D.1, (dsAll D.2.1 D.2.2.2.2.2.1 (nI v)).1, upd D.2.2.1 v 0, D.2.2.2.1, D.2.2.2.2.1, D.2.2.2.2.2.1, D.2.2.2.2.2.2.1, D.2.2.2.2.2.2.2.1, D.2.2.2.2.2.2.2.2.1, D.2.2.2.2.2.2.2.2.2))]) H := hP
      have hD : va_D A9 (cat [[(h, .inr (5, [.ref (Ad 0), .ref (At 0), .ref (As 0), .ref (Ac 0), .ref (L 6 0)]))], shW cyI As S, dyW cyI Ad ((D.1, (dsAll D.2.1 D.2.2.2.2.2.1 (nI v)).1, upd D.2.2.1 v 0, D.2.2.2.1, D.2.2.2.2.1, D.2.2.2.2.2.1, D.2.2.2.2.2.2.1, D.2.2.2.2.2.2.2.1, D.2.2.2.2.2.2.2.2.1, D.2.2.2.2.2.2.2.2.2))]) := hD
      refine lv_pop hx hb dX5_doPart_124 rfl ?_
      refine lv_goto (tgt := 166) hx hb dX5_doPart_125 (by decide) ?_
      refine lv_iconst (v := (1 : Int32)) hx hb dX5_doPart_166 (by decide) ?_
      have hgo : cat [[(h, .inr (5, [.ref (Ad 0), .ref (At 0), .ref (As 0), .ref (Ac 0), .ref (L 6 0)]))], shW cyI As S, dyW cyI Ad ((D.1, (dsAll D.2.1 D.2.2.2.2.2.1 (nI v)).1, upd D.2.2.1 v 0, D.2.2.2.1, D.2.2.2.2.1, D.2.2.2.2.2.1, D.2.2.2.2.2.2.1, D.2.2.2.2.2.2.2.1, D.2.2.2.2.2.2.2.2.1, D.2.2.2.2.2.2.2.2.2))] = cat [[(h, .inr (5, [.ref (Ad 0), .ref (At 0), .ref (As 0), .ref (Ac 0), .ref (L 6 0)]))], shW cyI As ((pGo S D u v).1), dyW cyI Ad ((pGo S D u v).2)] := by rw [ep, ew] <;> rfl
      rw [hgo] at hP hD
      have hP : va_P G vwCl (cat [[(h, .inr (5, [.ref (Ad 0), .ref (At 0), .ref (As 0), .ref (Ac 0), .ref (L 6 0)]))], shW cyI As ((pGo S D u v).1), dyW cyI Ad ((pGo S D u v).2)]) H := hP
      have hD : va_D A9 (cat [[(h, .inr (5, [.ref (Ad 0), .ref (At 0), .ref (As 0), .ref (Ac 0), .ref (L 6 0)]))], shW cyI As ((pGo S D u v).1), dyW cyI Ad ((pGo S D u v).2)]) := hD
      exact end_z hx hb hr hlocks hK hP hD hS (by rw [c_6] <;> rfl) (Or.inr rfl) dX5_doPart_167
    by_cases c_12_112 : u = (112 : Int32)
    · refine lv_lookup (tgt := 128) (off := 116) hx hb dX5_doPart_12 (by decide) (by rw [c_12_112]; rfl) (by decide) ?_
      have ew := pDo_112 S D v (u := u) c_12_112
      refine lv_aload_n hx hb dX5_doPart_128 rfl (lv_at hl 0 rfl) ?_
      refine gVi (gs := [[(h, .inr (5, [.ref (Ad 0), .ref (At 0), .ref (As 0), .ref (Ac 0), .ref (L 6 0)]))], shW cyI As S, dyW cyI Ad D]) (As := []) (rest := []) ⟨hx, hb, hml, hown, hts⟩ (c_X5_makePlan l G cyI cyO h Ad At As Ac L S D (by omega)) (cwV 0 hts gX5_doPart_X5_makePlan rfl rfl rfl (by decide +kernel) ⟨Nat.le_of_ble_eq_true rfl, Nat.le_of_ble_eq_true rfl⟩) hK hP hD hS hA [0, 1, 2] rfl rfl rfl 0 5 rfl rfl rfl hl.1 rfl (Nat.le_of_ble_eq_true rfl) dX5_doPart_129 ⟨Nat.le_refl _, Nat.le_refl _⟩ (fun H locs hP hD hS => ?_)
      have hP : va_P G vwCl (cat [[(h, .inr (5, [.ref (Ad 0), .ref (At 0), .ref (As 0), .ref (Ac 0), .ref (L 6 0)]))], shW cyI As (shOut S D), dyW cyI Ad (mpD S D)]) H := hP
      have hD : va_D A9 (cat [[(h, .inr (5, [.ref (Ad 0), .ref (At 0), .ref (As 0), .ref (Ac 0), .ref (L 6 0)]))], shW cyI As (shOut S D), dyW cyI Ad (mpD S D)]) := hD
      refine lv_pop hx hb dX5_doPart_132 rfl ?_
      refine lv_goto (tgt := 166) hx hb dX5_doPart_133 (by decide) ?_
      refine lv_iconst (v := (1 : Int32)) hx hb dX5_doPart_166 (by decide) ?_
      have hgo : cat [[(h, .inr (5, [.ref (Ad 0), .ref (At 0), .ref (As 0), .ref (Ac 0), .ref (L 6 0)]))], shW cyI As (shOut S D), dyW cyI Ad (mpD S D)] = cat [[(h, .inr (5, [.ref (Ad 0), .ref (At 0), .ref (As 0), .ref (Ac 0), .ref (L 6 0)]))], shW cyI As ((pGo S D u v).1), dyW cyI Ad ((pGo S D u v).2)] := by rw [ep, ew] <;> rfl
      rw [hgo] at hP hD
      have hP : va_P G vwCl (cat [[(h, .inr (5, [.ref (Ad 0), .ref (At 0), .ref (As 0), .ref (Ac 0), .ref (L 6 0)]))], shW cyI As ((pGo S D u v).1), dyW cyI Ad ((pGo S D u v).2)]) H := hP
      have hD : va_D A9 (cat [[(h, .inr (5, [.ref (Ad 0), .ref (At 0), .ref (As 0), .ref (Ac 0), .ref (L 6 0)]))], shW cyI As ((pGo S D u v).1), dyW cyI Ad ((pGo S D u v).2)]) := hD
      exact end_z hx hb hr hlocks hK hP hD hS (by rw [c_6] <;> rfl) (Or.inr rfl) dX5_doPart_167
    by_cases c_12_120 : u = (120 : Int32)
    · refine lv_lookup (tgt := 147) (off := 135) hx hb dX5_doPart_12 (by decide) (by rw [c_12_120]; rfl) (by decide) ?_
      have ew := pDo_120 S D v (u := u) c_12_120
      refine lv_aload_n hx hb dX5_doPart_147 rfl (lv_at hl 0 rfl) ?_
      refine va_get (v := .ref (Ad 0)) (C := RX5) (T := TX5) (N := 5) hx hb hts hinX5 hown hK hP 0 rfl rfl 0 (by decide) hf10 (fun _ h9 => h9) rfl dX5_doPart_148 ?_
      refine gVi (gs := [[(h, .inr (5, [.ref (Ad 0), .ref (At 0), .ref (As 0), .ref (Ac 0), .ref (L 6 0)]))], shW cyI As S, dyW cyI Ad D]) (As := []) (rest := []) ⟨hx, hb, hml, hown, hts⟩ (c_X1_giveBack l G cyI cyO Ad D (by omega)) (cwV 0 hts gX5_doPart_X1_giveBack rfl rfl rfl (by decide +kernel) ⟨Nat.le_of_ble_eq_true rfl, Nat.le_of_ble_eq_true rfl⟩) hK hP hD hS hA [2] rfl rfl rfl 0 1 rfl rfl rfl hl.1 rfl (Nat.le_of_ble_eq_true rfl) dX5_doPart_151 ⟨Nat.le_refl _, Nat.le_refl _⟩ (fun H locs hP hD hS => ?_)
      have hP : va_P G vwCl (cat [[(h, .inr (5, [.ref (Ad 0), .ref (At 0), .ref (As 0), .ref (Ac 0), .ref (L 6 0)]))], shW cyI As S, dyW cyI Ad ((D.1, (mvAll D.2.2.2.2.1 D.2.1 D.2.2.2.2.2.1).1, D.2.2.1, D.2.2.2.1, D.2.2.2.2.1, D.2.2.2.2.2.1, 0, D.2.2.2.2.2.2.2.1, D.2.2.2.2.2.2.2.2.1, D.2.2.2.2.2.2.2.2.2))]) H := hP
      have hD : va_D A9 (cat [[(h, .inr (5, [.ref (Ad 0), .ref (At 0), .ref (As 0), .ref (Ac 0), .ref (L 6 0)]))], shW cyI As S, dyW cyI Ad ((D.1, (mvAll D.2.2.2.2.1 D.2.1 D.2.2.2.2.2.1).1, D.2.2.1, D.2.2.2.1, D.2.2.2.2.1, D.2.2.2.2.2.1, 0, D.2.2.2.2.2.2.2.1, D.2.2.2.2.2.2.2.2.1, D.2.2.2.2.2.2.2.2.2))]) := hD
      refine lv_pop hx hb dX5_doPart_154 rfl ?_
      refine lv_goto (tgt := 166) hx hb dX5_doPart_155 (by decide) ?_
      refine lv_iconst (v := (1 : Int32)) hx hb dX5_doPart_166 (by decide) ?_
      have hgo : cat [[(h, .inr (5, [.ref (Ad 0), .ref (At 0), .ref (As 0), .ref (Ac 0), .ref (L 6 0)]))], shW cyI As S, dyW cyI Ad ((D.1, (mvAll D.2.2.2.2.1 D.2.1 D.2.2.2.2.2.1).1, D.2.2.1, D.2.2.2.1, D.2.2.2.2.1, D.2.2.2.2.2.1, 0, D.2.2.2.2.2.2.2.1, D.2.2.2.2.2.2.2.2.1, D.2.2.2.2.2.2.2.2.2))] = cat [[(h, .inr (5, [.ref (Ad 0), .ref (At 0), .ref (As 0), .ref (Ac 0), .ref (L 6 0)]))], shW cyI As ((pGo S D u v).1), dyW cyI Ad ((pGo S D u v).2)] := by rw [ep, ew] <;> rfl
      rw [hgo] at hP hD
      have hP : va_P G vwCl (cat [[(h, .inr (5, [.ref (Ad 0), .ref (At 0), .ref (As 0), .ref (Ac 0), .ref (L 6 0)]))], shW cyI As ((pGo S D u v).1), dyW cyI Ad ((pGo S D u v).2)]) H := hP
      have hD : va_D A9 (cat [[(h, .inr (5, [.ref (Ad 0), .ref (At 0), .ref (As 0), .ref (Ac 0), .ref (L 6 0)]))], shW cyI As ((pGo S D u v).1), dyW cyI Ad ((pGo S D u v).2)]) := hD
      exact end_z hx hb hr hlocks hK hP hD hS (by rw [c_6] <;> rfl) (Or.inr rfl) dX5_doPart_167
    refine lv_lookup (tgt := 158) (off := 146) hx hb dX5_doPart_12 (by decide) (by show Op.lookupswitch.offset [(43, 68), (45, 80), (99, 92), (104, 124), (108, 104), (112, 116), (120, 135)] 146 _ = 146; rw [lo_ne (n := 43) c_12_43 (by decide), lo_ne (n := 45) c_12_45 (by decide), lo_ne (n := 99) c_12_99 (by decide), lo_ne (n := 104) c_12_104 (by decide), lo_ne (n := 108) c_12_108 (by decide), lo_ne (n := 112) c_12_112 (by decide), lo_ne (n := 120) c_12_120 (by decide)]; rfl) (by decide) ?_
    have ew := pDo_0 S D v (u := u) c_12_43 c_12_45 c_12_99 c_12_104 c_12_108 c_12_112 c_12_120
    refine lv_aload_n hx hb dX5_doPart_158 rfl (lv_at hl 0 rfl) ?_
    refine va_get (v := .ref (Ad 0)) (C := RX5) (T := TX5) (N := 5) hx hb hts hinX5 hown hK hP 0 rfl rfl 0 (by decide) hf10 (fun _ h9 => h9) rfl dX5_doPart_159 ?_
    refine gVi (gs := [[(h, .inr (5, [.ref (Ad 0), .ref (At 0), .ref (As 0), .ref (Ac 0), .ref (L 6 0)]))], shW cyI As S, dyW cyI Ad D]) (As := []) (rest := []) ⟨hx, hb, hml, hown, hts⟩ (c_X1_bringMilk l G cyI cyO Ad D (by omega)) (cwV 0 hts gX5_doPart_X1_bringMilk rfl rfl rfl (by decide +kernel) ⟨Nat.le_of_ble_eq_true rfl, Nat.le_of_ble_eq_true rfl⟩) hK hP hD hS hA [2] rfl rfl rfl 0 1 rfl rfl rfl hl.1 rfl (Nat.le_of_ble_eq_true rfl) dX5_doPart_162 ⟨Nat.le_refl _, Nat.le_refl _⟩ (fun H locs hP hD hS => ?_)
    have hP : va_P G vwCl (cat [[(h, .inr (5, [.ref (Ad 0), .ref (At 0), .ref (As 0), .ref (Ac 0), .ref (L 6 0)]))], shW cyI As S, dyW cyI Ad ((D.1, D.2.1, D.2.2.1, D.2.2.2.1, D.2.2.2.2.1, D.2.2.2.2.2.1, D.2.2.2.2.2.2.1, D.2.2.2.2.2.2.2.1, D.2.2.2.2.2.2.2.2.1 + (bmAll D.1 D.2.1 D.2.2.2.2.2.2.2.2.2 D.2.2.2.2.2.1).1, (bmAll D.1 D.2.1 D.2.2.2.2.2.2.2.2.2 D.2.2.2.2.2.1).2))]) H := hP
    have hD : va_D A9 (cat [[(h, .inr (5, [.ref (Ad 0), .ref (At 0), .ref (As 0), .ref (Ac 0), .ref (L 6 0)]))], shW cyI As S, dyW cyI Ad ((D.1, D.2.1, D.2.2.1, D.2.2.2.1, D.2.2.2.2.1, D.2.2.2.2.2.1, D.2.2.2.2.2.2.1, D.2.2.2.2.2.2.2.1, D.2.2.2.2.2.2.2.2.1 + (bmAll D.1 D.2.1 D.2.2.2.2.2.2.2.2.2 D.2.2.2.2.2.1).1, (bmAll D.1 D.2.1 D.2.2.2.2.2.2.2.2.2 D.2.2.2.2.2.1).2))]) := hD
    refine lv_pop hx hb dX5_doPart_165 rfl ?_
    refine lv_iconst (v := (1 : Int32)) hx hb dX5_doPart_166 (by decide) ?_
    have hgo : cat [[(h, .inr (5, [.ref (Ad 0), .ref (At 0), .ref (As 0), .ref (Ac 0), .ref (L 6 0)]))], shW cyI As S, dyW cyI Ad ((D.1, D.2.1, D.2.2.1, D.2.2.2.1, D.2.2.2.2.1, D.2.2.2.2.2.1, D.2.2.2.2.2.2.1, D.2.2.2.2.2.2.2.1, D.2.2.2.2.2.2.2.2.1 + (bmAll D.1 D.2.1 D.2.2.2.2.2.2.2.2.2 D.2.2.2.2.2.1).1, (bmAll D.1 D.2.1 D.2.2.2.2.2.2.2.2.2 D.2.2.2.2.2.1).2))] = cat [[(h, .inr (5, [.ref (Ad 0), .ref (At 0), .ref (As 0), .ref (Ac 0), .ref (L 6 0)]))], shW cyI As ((pGo S D u v).1), dyW cyI Ad ((pGo S D u v).2)] := by rw [ep, ew] <;> rfl
    rw [hgo] at hP hD
    have hP : va_P G vwCl (cat [[(h, .inr (5, [.ref (Ad 0), .ref (At 0), .ref (As 0), .ref (Ac 0), .ref (L 6 0)]))], shW cyI As ((pGo S D u v).1), dyW cyI Ad ((pGo S D u v).2)]) H := hP
    have hD : va_D A9 (cat [[(h, .inr (5, [.ref (Ad 0), .ref (At 0), .ref (As 0), .ref (Ac 0), .ref (L 6 0)]))], shW cyI As ((pGo S D u v).1), dyW cyI Ad ((pGo S D u v).2)]) := hD
    exact end_z hx hb hr hlocks hK hP hD hS (by rw [c_6] <;> rfl) (Or.inr rfl) dX5_doPart_167
  · have c_6 : (pMay D u v) = false := bI_z.mp c_6
    have ep : pGo S D u v = (S, D) := if_neg (by rw [c_6]; decide)
    refine lv_iconst (v := (0 : Int32)) hx hb dX5_doPart_9 (by decide) ?_
    have hgo : cat [[(h, .inr (5, [.ref (Ad 0), .ref (At 0), .ref (As 0), .ref (Ac 0), .ref (L 6 0)]))], shW cyI As S, dyW cyI Ad D] = cat [[(h, .inr (5, [.ref (Ad 0), .ref (At 0), .ref (As 0), .ref (Ac 0), .ref (L 6 0)]))], shW cyI As ((pGo S D u v).1), dyW cyI Ad ((pGo S D u v).2)] := by rw [ep] <;> rfl
    rw [hgo] at hP hD
    have hP : va_P G vwCl (cat [[(h, .inr (5, [.ref (Ad 0), .ref (At 0), .ref (As 0), .ref (Ac 0), .ref (L 6 0)]))], shW cyI As ((pGo S D u v).1), dyW cyI Ad ((pGo S D u v).2)]) H := hP
    have hD : va_D A9 (cat [[(h, .inr (5, [.ref (Ad 0), .ref (At 0), .ref (As 0), .ref (Ac 0), .ref (L 6 0)]))], shW cyI As ((pGo S D u v).1), dyW cyI Ad ((pGo S D u v).2)]) := hD
    exact end_z hx hb hr hlocks hK hP hD hS (by rw [c_6] <;> rfl) (Or.inl rfl) dX5_doPart_10

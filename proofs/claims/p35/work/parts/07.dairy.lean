/-! ===== DoorstepRounds$Dairy (and Sharing.ownerInPlan) ===== -/
abbrev DS : Type := (Nat → Int32) × (Nat → Int32) × (Nat → Int32) × (Nat → Int32) × (Nat → Int32) × Nat × Int32 × Int32 × Int32 × Int32
abbrev SS : Type := (Nat → Int32) × (Nat → Int32) × (Nat → Int32) × (Nat → Int32) × (Nat → Int32) × (Nat → Int32)
def dyW (cyI : ClassId) (A : Nat → Nat) (D : DS) : va_W := (A 0, .inr (1, [.ref (A 1), .ref (A 2), .ref (A 3), .ref (A 4), .ref (A 5), .int (nI D.2.2.2.2.2.1), .int D.2.2.2.2.2.2.1, .int D.2.2.2.2.2.2.2.1, .int D.2.2.2.2.2.2.2.2.1, .int D.2.2.2.2.2.2.2.2.2])) ::
  (rowW cyI (A 1) (A 6) 20 D.1 ++ (rowW cyI (A 2) (A 7) 20 D.2.1 ++ (rowW cyI (A 3) (A 8) 6 D.2.2.1 ++ (rowW cyI (A 4) (A 9) 20 D.2.2.2.1 ++ rowW cyI (A 5) (A 10) 20 D.2.2.2.2.1))))
def shW (cyI : ClassId) (A : Nat → Nat) (S : SS) : va_W := (A 0, .inr (4, [.ref (A 1), .ref (A 2), .ref (A 3), .ref (A 4), .ref (A 5), .ref (A 6)])) ::
  (rowW cyI (A 1) (A 7) 20 S.1 ++ (rowW cyI (A 2) (A 8) 20 S.2.1 ++ (rowW cyI (A 3) (A 9) 6 S.2.2.1 ++ (rowW cyI (A 4) (A 10) 6 S.2.2.2.1 ++ (rowW cyI (A 5) (A 11) 6 S.2.2.2.2.1 ++ rowW cyI (A 6) (A 12) 6 S.2.2.2.2.2)))))
def dHO (D : DS) : Bool := !decide (D.2.2.2.2.2.2.1 = 0)
def dHas (n : Nat) (x : Int32) : Bool := !decide (x < 0) && !decide (nI n ≤ x)
def cwStep (W : Nat → Int32) (m x : Nat) : Nat := if W m = 1 then x + 1 else x
def cW (W : Nat → Int32) : Nat := itr 6 (cwStep W) 0
def szStep (O : Nat → Int32) (y : Int32) (d x : Nat) : Nat := if O d = y then x + 1 else x
def rSz (O : Nat → Int32) (n : Nat) (y : Int32) : Nat := itr n (szStep O y) 0
def ldStep (P O : Nat → Int32) (y : Int32) (d : Nat) (x : Int32) : Int32 := if O d = y then x + P d else x
def rLd (P O : Nat → Int32) (n : Nat) (y : Int32) : Int32 := itr n (ldStep P O y) 0
theorem cw_le (W : Nat → Int32) (i : Nat) : itr i (cwStep W) 0 ≤ i := by
  induction i with
  | zero => exact Nat.le_refl _
  | succ i ih => show cwStep W i (itr i (cwStep W) 0) ≤ i + 1; generalize itr i (cwStep W) 0 = z at ih ⊢; unfold cwStep; split <;> omega
theorem cW_le (W : Nat → Int32) : cW W ≤ 6 := cw_le W 6
theorem rSz_le (O : Nat → Int32) (n : Nat) (y : Int32) : rSz O n y ≤ n := by
  induction n with
  | zero => exact Nat.le_refl _
  | succ i ih => show szStep O y i (rSz O i y) ≤ i + 1; generalize rSz O i y = z at ih ⊢; unfold szStep; split <;> omega
def dsStep (y : Int32) (d : Nat) (q : (Nat → Int32) × Nat) : (Nat → Int32) × Nat := if q.1 d = y then (upd q.1 d (-1), q.2 + 1) else q
def dsAll (O : Nat → Int32) (n : Nat) (y : Int32) : (Nat → Int32) × Nat := itr n (dsStep y) (O, 0)
def dfStep (O W : Nat → Int32) (n m : Nat) (q : Nat × Nat) : Nat × Nat := if W m = 1 then (if rSz O n (nI m) ≤ q.1 then q.1 else rSz O n (nI m), if q.2 ≤ rSz O n (nI m) then q.2 else rSz O n (nI m)) else q
def dfAll (O W : Nat → Int32) (n : Nat) : Nat × Nat := itr 6 (dfStep O W n) (0, 20)
def rDiff (O W : Nat → Int32) (n : Nat) : Nat := if (dfAll O W n).1 ≤ (dfAll O W n).2 then 0 else (dfAll O W n).1 - (dfAll O W n).2
def dCopy (D E : DS) : DS := (rowCopy D.1 E.1 20, rowCopy D.2.1 E.2.1 20, rowCopy D.2.2.1 E.2.2.1 6, rowCopy D.2.2.2.1 E.2.2.2.1 20, rowCopy D.2.2.2.2.1 E.2.2.2.2.1 20, E.2.2.2.2.2)
def guStep (N : Nat → Int32) (d : Nat) (q : (Nat → Int32) × Nat) : (Nat → Int32) × Nat := if q.1 d = -1 then q else if q.1 d = N d then q else (upd q.1 d (-1), q.2 + 1)
def guAll (N O : Nat → Int32) (n : Nat) : (Nat → Int32) × Nat := itr n (guStep N) (O, 0)
def mvStep (N : Nat → Int32) (d : Nat) (q : (Nat → Int32) × Nat) : (Nat → Int32) × Nat := if q.1 d = N d then q else (upd q.1 d (N d), q.2 + 1)
def mvAll (N O : Nat → Int32) (n : Nat) : (Nat → Int32) × Nat := itr n (mvStep N) (O, 0)
def dGive (D : DS) : DS := (D.1, (guAll D.2.2.2.1 D.2.1 D.2.2.2.2.2.1).1, D.2.2.1, D.2.2.2.1, D.2.2.2.2.1, D.2.2.2.2.2.1, 2, D.2.2.2.2.2.2.2.1, D.2.2.2.2.2.2.2.2.1, D.2.2.2.2.2.2.2.2.2)
def dTake (D : DS) : DS := (D.1, (mvAll D.2.2.2.1 D.2.1 D.2.2.2.2.2.1).1, D.2.2.1, D.2.2.2.1, D.2.2.2.2.1, D.2.2.2.2.2.1, 0, D.2.2.2.2.2.2.2.1 + nI (mvAll D.2.2.2.1 D.2.1 D.2.2.2.2.2.1).2, D.2.2.2.2.2.2.2.2.1, D.2.2.2.2.2.2.2.2.2)
def dNext (D : DS) : DS := if D.2.2.2.2.2.2.1 = 1 then dGive D else dTake D
def dNextR (D : DS) : Nat := if D.2.2.2.2.2.2.1 = 1 then (guAll D.2.2.2.1 D.2.1 D.2.2.2.2.2.1).2 else (mvAll D.2.2.2.1 D.2.1 D.2.2.2.2.2.1).2
def dPlan (D : DS) (k : Nat) : Int32 := if dHO D = true then D.2.2.2.1 k else D.2.1 k
def bmStep (P O : Nat → Int32) (d : Nat) (q : Int32 × Int32) : Int32 × Int32 := if O d = -1 then (q.1, q.2 + 1) else (q.1 + P d, q.2)
def bmAll (P O : Nat → Int32) (w : Int32) (n : Nat) : Int32 × Int32 := itr n (bmStep P O) (0, w)

abbrev rm_X4_ownerInPlan : Room := { frames := 1, cells := 0, slots := 0, locals := 21 }
set_option maxHeartbeats 4000000 in
set_option maxRecDepth 100000 in
theorem c_X4_ownerInPlan (l : Launch) (G : va_G) (cyI cyO : ClassId) (A : Nat → Nat) (S : SS) (k : Nat) (hk : k < 20) : CI l G (TY cyI cyO) yX4_ownerInPlan wsX4_ownerInPlan rm_X4_ownerInPlan [.ref (A 0), .int (nI (k))] [shW cyI A S] (S.1 k) [shW cyI A S] := by
  refine wk_I (cc := cX4_ownerInPlan) (maxL := 2) (ret := (some .int)) (by decide) rfl (Nat.le_of_ble_eq_true rfl) ?_
  intro p9 e9 s9 m9 b9 t9 c9 A9 ls hx hb hr hts hown hlocks hml hK hA hD hP hl hS hnm
  have hl : lv_has ls 2 [(0, .ref (A 0)), (1, .int (nI (k)))] := hl
  have hinX4 : ∀ w ∈ wsX40, w ∈ wsX4_ownerInPlan := by decide +kernel
  have hf14 := hts (.fieldLink RX4 14 "DoorstepRounds$Sharing" "plan" "LDoorstepRounds$Row;") (by decide +kernel)
  refine lv_aload_n hx hb dX4_ownerInPlan_0 rfl (lv_at hl 0 rfl) ?_
  refine va_get (v := .ref (A 1)) (C := RX4) (T := TX4) (N := 6) hx hb hts hinX4 hown hK hP 0 rfl rfl 0 (by decide) hf14 (fun _ h9 => h9) rfl dX4_ownerInPlan_1 ?_
  refine lv_iload_n hx hb dX4_ownerInPlan_4 rfl (lv_at hl 1 rfl) ?_
  have hP : va_P G vwCl (cat [[(A 0, .inr (4, [.ref (A 1), .ref (A 2), .ref (A 3), .ref (A 4), .ref (A 5), .ref (A 6)]))], rowW cyI (A 1) (A 7) (20) (S.1), rowW cyI (A 2) (A 8) (20) (S.2.1), rowW cyI (A 3) (A 9) (6) (S.2.2.1), rowW cyI (A 4) (A 10) (6) (S.2.2.2.1), rowW cyI (A 5) (A 11) (6) (S.2.2.2.2.1), rowW cyI (A 6) (A 12) (6) (S.2.2.2.2.2)]) s9.heap := hP
  have hD : va_D A9 (cat [[(A 0, .inr (4, [.ref (A 1), .ref (A 2), .ref (A 3), .ref (A 4), .ref (A 5), .ref (A 6)]))], rowW cyI (A 1) (A 7) (20) (S.1), rowW cyI (A 2) (A 8) (20) (S.2.1), rowW cyI (A 3) (A 9) (6) (S.2.2.1), rowW cyI (A 4) (A 10) (6) (S.2.2.2.1), rowW cyI (A 5) (A 11) (6) (S.2.2.2.2.1), rowW cyI (A 6) (A 12) (6) (S.2.2.2.2.2)]) := hD
  refine gVi (gs := [[(A 0, .inr (4, [.ref (A 1), .ref (A 2), .ref (A 3), .ref (A 4), .ref (A 5), .ref (A 6)]))], rowW cyI (A 1) (A 7) (20) (S.1), rowW cyI (A 2) (A 8) (20) (S.2.1), rowW cyI (A 3) (A 9) (6) (S.2.2.1), rowW cyI (A 4) (A 10) (6) (S.2.2.2.1), rowW cyI (A 5) (A 11) (6) (S.2.2.2.2.1), rowW cyI (A 6) (A 12) (6) (S.2.2.2.2.2)]) (As := [.int (nI (k))]) (rest := []) ⟨hx, hb, hml, hown, hts⟩ (c_X3_at l G cyI cyO (A 1) (A 7) 20 S.1 (nI (k)) (by omega)) (cwV 1 hts gX4_ownerInPlan_X3_at rfl rfl rfl (by decide +kernel) ⟨Nat.le_of_ble_eq_true rfl, Nat.le_of_ble_eq_true rfl⟩) hK hP hD hS hA [1] rfl rfl rfl 0 3 rfl rfl rfl hl.1 rfl (Nat.le_of_ble_eq_true rfl) dX4_ownerInPlan_5 ⟨Nat.le_refl _, Nat.le_refl _⟩ (fun H locs hP hD hS => ?_)
  have hP : va_P G vwCl (cat [[(A 0, .inr (4, [.ref (A 1), .ref (A 2), .ref (A 3), .ref (A 4), .ref (A 5), .ref (A 6)]))], rowW cyI (A 1) (A 7) (20) (S.1), rowW cyI (A 2) (A 8) (20) (S.2.1), rowW cyI (A 3) (A 9) (6) (S.2.2.1), rowW cyI (A 4) (A 10) (6) (S.2.2.2.1), rowW cyI (A 5) (A 11) (6) (S.2.2.2.2.1), rowW cyI (A 6) (A 12) (6) (S.2.2.2.2.2)]) H := hP
  have hD : va_D A9 (cat [[(A 0, .inr (4, [.ref (A 1), .ref (A 2), .ref (A 3), .ref (A 4), .ref (A 5), .ref (A 6)]))], rowW cyI (A 1) (A 7) (20) (S.1), rowW cyI (A 2) (A 8) (20) (S.2.1), rowW cyI (A 3) (A 9) (6) (S.2.2.1), rowW cyI (A 4) (A 10) (6) (S.2.2.2.1), rowW cyI (A 5) (A 11) (6) (S.2.2.2.2.1), rowW cyI (A 6) (A 12) (6) (S.2.2.2.2.2)]) := hD
  refine top_i (x' := S.1 k) (rowAt_in (by omega) (by omega)) ?_
  have hP : va_P G vwCl (cat [shW cyI A S]) H := hP
  have hD : va_D A9 (cat [shW cyI A S]) := hD
  exact end_i hx hb hr hlocks hK hP hD hS (rfl) dX4_ownerInPlan_8
abbrev rm_X1_isHandingOver : Room := { frames := 0, cells := 0, slots := 0, locals := 0 }
set_option maxHeartbeats 4000000 in
set_option maxRecDepth 100000 in
theorem c_X1_isHandingOver (l : Launch) (G : va_G) (cyI cyO : ClassId) (A : Nat → Nat) (D : DS) : CI l G (TY cyI cyO) yX1_isHandingOver wsX1_isHandingOver rm_X1_isHandingOver [.ref (A 0)] [dyW cyI A D] (bI (dHO D)) [dyW cyI A D] := by
  refine wk_I (cc := cX1_isHandingOver) (maxL := 1) (ret := (some .boolean)) (by decide) rfl (Nat.le_of_ble_eq_true rfl) ?_
  intro p9 e9 s9 m9 b9 t9 c9 A9 ls hx hb hr hts hown hlocks hml hK hA hD hP hl hS hnm
  have hl : lv_has ls 1 [(0, .ref (A 0))] := hl
  have hinX1 : ∀ w ∈ wsX10, w ∈ wsX1_isHandingOver := by decide +kernel
  have hf36 := hts (.fieldLink RX1 36 "DoorstepRounds$Dairy" "step" "I") (by decide +kernel)
  refine lv_aload_n hx hb dX1_isHandingOver_0 rfl (lv_at hl 0 rfl) ?_
  refine va_get (v := .int (D.2.2.2.2.2.2.1)) (C := RX1) (T := TX1) (N := 10) hx hb hts hinX1 hown hK hP 0 rfl rfl 6 (by decide) hf36 (fun _ h9 => h9) rfl dX1_isHandingOver_1 ?_
  refine lv_if_eq (tgt := 11) hx hb dX1_isHandingOver_4 (by decide) (fun c_4 => ?_) (fun c_4 => ?_)
  · refine lv_iconst (v := (0 : Int32)) hx hb dX1_isHandingOver_11 (by decide) ?_
    have hP : va_P G vwCl (cat [dyW cyI A D]) s9.heap := hP
    have hD : va_D A9 (cat [dyW cyI A D]) := hD
    exact end_z hx hb hr hlocks hK hP hD hS (by simp [dHO, bI, c_4]) (Or.inl rfl) dX1_isHandingOver_12
  · refine lv_iconst (v := (1 : Int32)) hx hb dX1_isHandingOver_7 (by decide) ?_
    refine lv_goto (tgt := 12) hx hb dX1_isHandingOver_8 (by decide) ?_
    have hP : va_P G vwCl (cat [dyW cyI A D]) s9.heap := hP
    have hD : va_D A9 (cat [dyW cyI A D]) := hD
    exact end_z hx hb hr hlocks hK hP hD hS (by simp [dHO, bI, c_4]) (Or.inr rfl) dX1_isHandingOver_12
abbrev rm_X1_mayAdd : Room := { frames := 1, cells := 0, slots := 0, locals := 20 }
set_option maxHeartbeats 4000000 in
set_option maxRecDepth 100000 in
theorem c_X1_mayAdd (l : Launch) (G : va_G) (cyI cyO : ClassId) (A : Nat → Nat) (D : DS) (hn : D.2.2.2.2.2.1 ≤ 20) : CI l G (TY cyI cyO) yX1_mayAdd wsX1_mayAdd rm_X1_mayAdd [.ref (A 0)] [dyW cyI A D] (bI (!dHO D && decide (D.2.2.2.2.2.1 < 20))) [dyW cyI A D] := by
  refine wk_I (cc := cX1_mayAdd) (maxL := 1) (ret := (some .boolean)) (by decide) rfl (Nat.le_of_ble_eq_true rfl) ?_
  intro p9 e9 s9 m9 b9 t9 c9 A9 ls hx hb hr hts hown hlocks hml hK hA hD hP hl hS hnm
  have hl : lv_has ls 1 [(0, .ref (A 0))] := hl
  have hinX1 : ∀ w ∈ wsX10, w ∈ wsX1_mayAdd := by decide +kernel
  have hf32 := hts (.fieldLink RX1 32 "DoorstepRounds$Dairy" "count" "I") (by decide +kernel)
  refine lv_aload_n hx hb dX1_mayAdd_0 rfl (lv_at hl 0 rfl) ?_
  refine gVi (gs := [dyW cyI A D]) (As := []) (rest := []) ⟨hx, hb, hml, hown, hts⟩ (c_X1_isHandingOver l G cyI cyO A D) (cwV 0 hts gX1_mayAdd_X1_isHandingOver rfl rfl rfl (by decide +kernel) ⟨Nat.le_of_ble_eq_true rfl, Nat.le_of_ble_eq_true rfl⟩) hK hP hD hS hA [0] rfl rfl rfl 0 1 rfl rfl rfl hl.1 rfl (Nat.le_of_ble_eq_true rfl) dX1_mayAdd_1 ⟨Nat.le_refl _, Nat.le_refl _⟩ (fun H locs hP hD hS => ?_)
  have hP : va_P G vwCl (cat [dyW cyI A D]) H := hP
  have hD : va_D A9 (cat [dyW cyI A D]) := hD
  refine lv_if_ne (tgt := 20) hx hb dX1_mayAdd_4 (by decide) (fun c_4 => ?_) (fun c_4 => ?_)
  · have c_4 : (dHO D) = true := bI_nz.mp c_4
    refine lv_iconst (v := (0 : Int32)) hx hb dX1_mayAdd_20 (by decide) ?_
    have hP : va_P G vwCl (cat [dyW cyI A D]) H := hP
    have hD : va_D A9 (cat [dyW cyI A D]) := hD
    exact end_z hx hb hr hlocks hK hP hD hS (by simp [bI, c_4]) (Or.inl rfl) dX1_mayAdd_21
  · have c_4 : (dHO D) = false := bI_z.mp c_4
    refine lv_aload_n hx hb dX1_mayAdd_7 rfl (lv_at hl 0 rfl) ?_
    refine va_get (v := .int (nI (D.2.2.2.2.2.1))) (C := RX1) (T := TX1) (N := 10) hx hb hts hinX1 hown hK hP 0 rfl rfl 5 (by decide) hf32 (fun _ h9 => h9) rfl dX1_mayAdd_8 ?_
    refine lv_bipush (v := (20 : Int32)) hx hb dX1_mayAdd_11 (by decide) ?_
    refine lv_icmp_ge (tgt := 20) hx hb dX1_mayAdd_13 (by decide) (fun c_13 => ?_) (fun c_13 => ?_)
    · have c_13 : (20) ≤ (D.2.2.2.2.2.1) := (nI_leI (a := 20) (b := D.2.2.2.2.2.1) (by omega) (by omega)).mp c_13
      refine lv_iconst (v := (0 : Int32)) hx hb dX1_mayAdd_20 (by decide) ?_
      have hP : va_P G vwCl (cat [dyW cyI A D]) H := hP
      have hD : va_D A9 (cat [dyW cyI A D]) := hD
      exact end_z hx hb hr hlocks hK hP hD hS (by simp [bI, c_4, c_13]) (Or.inl rfl) dX1_mayAdd_21
    · have c_13 : ¬ (20) ≤ (D.2.2.2.2.2.1) := fun h9 => c_13 ((nI_leI (a := 20) (b := D.2.2.2.2.2.1) (by omega) (by omega)).mpr h9)
      refine lv_iconst (v := (1 : Int32)) hx hb dX1_mayAdd_16 (by decide) ?_
      refine lv_goto (tgt := 21) hx hb dX1_mayAdd_17 (by decide) ?_
      have hP : va_P G vwCl (cat [dyW cyI A D]) H := hP
      have hD : va_D A9 (cat [dyW cyI A D]) := hD
      exact end_z hx hb hr hlocks hK hP hD hS (by simp [bI, c_4, c_13]) (Or.inr rfl) dX1_mayAdd_21
abbrev rm_X1_hasDoorstep : Room := { frames := 0, cells := 0, slots := 0, locals := 0 }
set_option maxHeartbeats 4000000 in
set_option maxRecDepth 100000 in
theorem c_X1_hasDoorstep (l : Launch) (G : va_G) (cyI cyO : ClassId) (A : Nat → Nat) (D : DS) (x : Int32) : CI l G (TY cyI cyO) yX1_hasDoorstep wsX1_hasDoorstep rm_X1_hasDoorstep [.ref (A 0), .int (x)] [dyW cyI A D] (bI (dHas D.2.2.2.2.2.1 x)) [dyW cyI A D] := by
  refine wk_I (cc := cX1_hasDoorstep) (maxL := 2) (ret := (some .boolean)) (by decide) rfl (Nat.le_of_ble_eq_true rfl) ?_
  intro p9 e9 s9 m9 b9 t9 c9 A9 ls hx hb hr hts hown hlocks hml hK hA hD hP hl hS hnm
  have hl : lv_has ls 2 [(0, .ref (A 0)), (1, .int (x))] := hl
  have hinX1 : ∀ w ∈ wsX10, w ∈ wsX1_hasDoorstep := by decide +kernel
  have hf32 := hts (.fieldLink RX1 32 "DoorstepRounds$Dairy" "count" "I") (by decide +kernel)
  refine lv_iload_n hx hb dX1_hasDoorstep_0 rfl (lv_at hl 1 rfl) ?_
  refine lv_if_lt (tgt := 16) hx hb dX1_hasDoorstep_1 (by decide) (fun c_1 => ?_) (fun c_1 => ?_)
  · refine lv_iconst (v := (0 : Int32)) hx hb dX1_hasDoorstep_16 (by decide) ?_
    have hP : va_P G vwCl (cat [dyW cyI A D]) s9.heap := hP
    have hD : va_D A9 (cat [dyW cyI A D]) := hD
    exact end_z hx hb hr hlocks hK hP hD hS (by simp [dHas, bI, c_1]) (Or.inl rfl) dX1_hasDoorstep_17
  · refine lv_iload_n hx hb dX1_hasDoorstep_4 rfl (lv_at hl 1 rfl) ?_
    refine lv_aload_n hx hb dX1_hasDoorstep_5 rfl (lv_at hl 0 rfl) ?_
    refine va_get (v := .int (nI (D.2.2.2.2.2.1))) (C := RX1) (T := TX1) (N := 10) hx hb hts hinX1 hown hK hP 0 rfl rfl 5 (by decide) hf32 (fun _ h9 => h9) rfl dX1_hasDoorstep_6 ?_
    refine lv_icmp_ge (tgt := 16) hx hb dX1_hasDoorstep_9 (by decide) (fun c_9 => ?_) (fun c_9 => ?_)
    · refine lv_iconst (v := (0 : Int32)) hx hb dX1_hasDoorstep_16 (by decide) ?_
      have hP : va_P G vwCl (cat [dyW cyI A D]) s9.heap := hP
      have hD : va_D A9 (cat [dyW cyI A D]) := hD
      exact end_z hx hb hr hlocks hK hP hD hS (by simp [dHas, bI, c_1, c_9]) (Or.inl rfl) dX1_hasDoorstep_17
    · refine lv_iconst (v := (1 : Int32)) hx hb dX1_hasDoorstep_12 (by decide) ?_
      refine lv_goto (tgt := 17) hx hb dX1_hasDoorstep_13 (by decide) ?_
      have hP : va_P G vwCl (cat [dyW cyI A D]) s9.heap := hP
      have hD : va_D A9 (cat [dyW cyI A D]) := hD
      exact end_z hx hb hr hlocks hK hP hD hS (by simp [dHas, bI, c_1, c_9]) (Or.inr rfl) dX1_hasDoorstep_17
abbrev rm_X1_mayRemove : Room := { frames := 1, cells := 0, slots := 0, locals := 21 }
set_option maxHeartbeats 4000000 in
set_option maxRecDepth 100000 in
theorem c_X1_mayRemove (l : Launch) (G : va_G) (cyI cyO : ClassId) (A : Nat → Nat) (D : DS) (x : Int32) : CI l G (TY cyI cyO) yX1_mayRemove wsX1_mayRemove rm_X1_mayRemove [.ref (A 0), .int (x)] [dyW cyI A D] (bI (dHas D.2.2.2.2.2.1 x && !dHO D)) [dyW cyI A D] := by
  refine wk_I (cc := cX1_mayRemove) (maxL := 2) (ret := (some .boolean)) (by decide) rfl (Nat.le_of_ble_eq_true rfl) ?_
  intro p9 e9 s9 m9 b9 t9 c9 A9 ls hx hb hr hts hown hlocks hml hK hA hD hP hl hS hnm
  have hl : lv_has ls 2 [(0, .ref (A 0)), (1, .int (x))] := hl
  refine lv_aload_n hx hb dX1_mayRemove_0 rfl (lv_at hl 0 rfl) ?_
  refine lv_iload_n hx hb dX1_mayRemove_1 rfl (lv_at hl 1 rfl) ?_
  refine gVi (gs := [dyW cyI A D]) (As := [.int (x)]) (rest := []) ⟨hx, hb, hml, hown, hts⟩ (c_X1_hasDoorstep l G cyI cyO A D x) (cwV 1 hts gX1_mayRemove_X1_hasDoorstep rfl rfl rfl (by decide +kernel) ⟨Nat.le_of_ble_eq_true rfl, Nat.le_of_ble_eq_true rfl⟩) hK hP hD hS hA [0] rfl rfl rfl 0 1 rfl rfl rfl hl.1 rfl (Nat.le_of_ble_eq_true rfl) dX1_mayRemove_2 ⟨Nat.le_refl _, Nat.le_refl _⟩ (fun H locs hP hD hS => ?_)
  have hP : va_P G vwCl (cat [dyW cyI A D]) H := hP
  have hD : va_D A9 (cat [dyW cyI A D]) := hD
  refine lv_if_eq (tgt := 19) hx hb dX1_mayRemove_5 (by decide) (fun c_5 => ?_) (fun c_5 => ?_)
  · have c_5 : (dHas D.2.2.2.2.2.1 x) = false := bI_z.mp c_5
    refine lv_iconst (v := (0 : Int32)) hx hb dX1_mayRemove_19 (by decide) ?_
    have hP : va_P G vwCl (cat [dyW cyI A D]) H := hP
    have hD : va_D A9 (cat [dyW cyI A D]) := hD
    exact end_z hx hb hr hlocks hK hP hD hS (by simp [bI, c_5]) (Or.inl rfl) dX1_mayRemove_20
  · have c_5 : (dHas D.2.2.2.2.2.1 x) = true := bI_nz.mp c_5
    refine lv_aload_n hx hb dX1_mayRemove_8 rfl (lv_at hl 0 rfl) ?_
    refine gVi (gs := [dyW cyI A D]) (As := []) (rest := []) ⟨hx, hb, hml, hown, hts⟩ (c_X1_isHandingOver l G cyI cyO A D) (cwV 0 hts gX1_mayRemove_X1_isHandingOver rfl rfl rfl (by decide +kernel) ⟨Nat.le_of_ble_eq_true rfl, Nat.le_of_ble_eq_true rfl⟩) hK hP hD hS hA [0] rfl rfl rfl 0 1 rfl rfl rfl hl.1 rfl (Nat.le_of_ble_eq_true rfl) dX1_mayRemove_9 ⟨Nat.le_refl _, Nat.le_refl _⟩ (fun H locs hP hD hS => ?_)
    have hP : va_P G vwCl (cat [dyW cyI A D]) H := hP
    have hD : va_D A9 (cat [dyW cyI A D]) := hD
    refine lv_if_ne (tgt := 19) hx hb dX1_mayRemove_12 (by decide) (fun c_12 => ?_) (fun c_12 => ?_)
    · have c_12 : (dHO D) = true := bI_nz.mp c_12
      refine lv_iconst (v := (0 : Int32)) hx hb dX1_mayRemove_19 (by decide) ?_
      have hP : va_P G vwCl (cat [dyW cyI A D]) H := hP
      have hD : va_D A9 (cat [dyW cyI A D]) := hD
      exact end_z hx hb hr hlocks hK hP hD hS (by simp [bI, c_5, c_12]) (Or.inl rfl) dX1_mayRemove_20
    · have c_12 : (dHO D) = false := bI_z.mp c_12
      refine lv_iconst (v := (1 : Int32)) hx hb dX1_mayRemove_15 (by decide) ?_
      refine lv_goto (tgt := 20) hx hb dX1_mayRemove_16 (by decide) ?_
      have hP : va_P G vwCl (cat [dyW cyI A D]) H := hP
      have hD : va_D A9 (cat [dyW cyI A D]) := hD
      exact end_z hx hb hr hlocks hK hP hD hS (by simp [bI, c_5, c_12]) (Or.inr rfl) dX1_mayRemove_20
abbrev rm_X1_works : Room := { frames := 1, cells := 0, slots := 0, locals := 21 }
set_option maxHeartbeats 4000000 in
set_option maxRecDepth 100000 in
theorem c_X1_works (l : Launch) (G : va_G) (cyI cyO : ClassId) (A : Nat → Nat) (D : DS) (k : Nat) (hk : k < 6) : CI l G (TY cyI cyO) yX1_works wsX1_works rm_X1_works [.ref (A 0), .int (nI (k))] [dyW cyI A D] (bI (decide (D.2.2.1 k = 1))) [dyW cyI A D] := by
  refine wk_I (cc := cX1_works) (maxL := 2) (ret := (some .boolean)) (by decide) rfl (Nat.le_of_ble_eq_true rfl) ?_
  intro p9 e9 s9 m9 b9 t9 c9 A9 ls hx hb hr hts hown hlocks hml hK hA hD hP hl hS hnm
  have hl : lv_has ls 2 [(0, .ref (A 0)), (1, .int (nI (k)))] := hl
  have hinX1 : ∀ w ∈ wsX10, w ∈ wsX1_works := by decide +kernel
  have hf23 := hts (.fieldLink RX1 23 "DoorstepRounds$Dairy" "atWork" "LDoorstepRounds$Row;") (by decide +kernel)
  refine lv_aload_n hx hb dX1_works_0 rfl (lv_at hl 0 rfl) ?_
  refine va_get (v := .ref (A 3)) (C := RX1) (T := TX1) (N := 10) hx hb hts hinX1 hown hK hP 0 rfl rfl 2 (by decide) hf23 (fun _ h9 => h9) rfl dX1_works_1 ?_
  refine lv_iload_n hx hb dX1_works_4 rfl (lv_at hl 1 rfl) ?_
  have hP : va_P G vwCl (cat [[(A 0, .inr (1, [.ref (A 1), .ref (A 2), .ref (A 3), .ref (A 4), .ref (A 5), .int (nI (D.2.2.2.2.2.1)), .int (D.2.2.2.2.2.2.1), .int (D.2.2.2.2.2.2.2.1), .int (D.2.2.2.2.2.2.2.2.1), .int (D.2.2.2.2.2.2.2.2.2)]))], rowW cyI (A 1) (A 6) (20) (D.1), rowW cyI (A 2) (A 7) (20) (D.2.1), rowW cyI (A 3) (A 8) (6) (D.2.2.1), rowW cyI (A 4) (A 9) (20) (D.2.2.2.1), rowW cyI (A 5) (A 10) (20) (D.2.2.2.2.1)]) s9.heap := hP
  have hD : va_D A9 (cat [[(A 0, .inr (1, [.ref (A 1), .ref (A 2), .ref (A 3), .ref (A 4), .ref (A 5), .int (nI (D.2.2.2.2.2.1)), .int (D.2.2.2.2.2.2.1), .int (D.2.2.2.2.2.2.2.1), .int (D.2.2.2.2.2.2.2.2.1), .int (D.2.2.2.2.2.2.2.2.2)]))], rowW cyI (A 1) (A 6) (20) (D.1), rowW cyI (A 2) (A 7) (20) (D.2.1), rowW cyI (A 3) (A 8) (6) (D.2.2.1), rowW cyI (A 4) (A 9) (20) (D.2.2.2.1), rowW cyI (A 5) (A 10) (20) (D.2.2.2.2.1)]) := hD
  refine gVi (gs := [[(A 0, .inr (1, [.ref (A 1), .ref (A 2), .ref (A 3), .ref (A 4), .ref (A 5), .int (nI (D.2.2.2.2.2.1)), .int (D.2.2.2.2.2.2.1), .int (D.2.2.2.2.2.2.2.1), .int (D.2.2.2.2.2.2.2.2.1), .int (D.2.2.2.2.2.2.2.2.2)]))], rowW cyI (A 1) (A 6) (20) (D.1), rowW cyI (A 2) (A 7) (20) (D.2.1), rowW cyI (A 3) (A 8) (6) (D.2.2.1), rowW cyI (A 4) (A 9) (20) (D.2.2.2.1), rowW cyI (A 5) (A 10) (20) (D.2.2.2.2.1)]) (As := [.int (nI (k))]) (rest := []) ⟨hx, hb, hml, hown, hts⟩ (c_X3_at l G cyI cyO (A 3) (A 8) 6 D.2.2.1 (nI (k)) (by omega)) (cwV 1 hts gX1_works_X3_at rfl rfl rfl (by decide +kernel) ⟨Nat.le_of_ble_eq_true rfl, Nat.le_of_ble_eq_true rfl⟩) hK hP hD hS hA [3] rfl rfl rfl 0 3 rfl rfl rfl hl.1 rfl (Nat.le_of_ble_eq_true rfl) dX1_works_5 ⟨Nat.le_refl _, Nat.le_refl _⟩ (fun H locs hP hD hS => ?_)
  have hP : va_P G vwCl (cat [[(A 0, .inr (1, [.ref (A 1), .ref (A 2), .ref (A 3), .ref (A 4), .ref (A 5), .int (nI (D.2.2.2.2.2.1)), .int (D.2.2.2.2.2.2.1), .int (D.2.2.2.2.2.2.2.1), .int (D.2.2.2.2.2.2.2.2.1), .int (D.2.2.2.2.2.2.2.2.2)]))], rowW cyI (A 1) (A 6) (20) (D.1), rowW cyI (A 2) (A 7) (20) (D.2.1), rowW cyI (A 3) (A 8) (6) (D.2.2.1), rowW cyI (A 4) (A 9) (20) (D.2.2.2.1), rowW cyI (A 5) (A 10) (20) (D.2.2.2.2.1)]) H := hP
  have hD : va_D A9 (cat [[(A 0, .inr (1, [.ref (A 1), .ref (A 2), .ref (A 3), .ref (A 4), .ref (A 5), .int (nI (D.2.2.2.2.2.1)), .int (D.2.2.2.2.2.2.1), .int (D.2.2.2.2.2.2.2.1), .int (D.2.2.2.2.2.2.2.2.1), .int (D.2.2.2.2.2.2.2.2.2)]))], rowW cyI (A 1) (A 6) (20) (D.1), rowW cyI (A 2) (A 7) (20) (D.2.1), rowW cyI (A 3) (A 8) (6) (D.2.2.1), rowW cyI (A 4) (A 9) (20) (D.2.2.2.1), rowW cyI (A 5) (A 10) (20) (D.2.2.2.2.1)]) := hD
  refine top_i (x' := D.2.2.1 k) (rowAt_in (by omega) (by omega)) ?_
  refine lv_iconst (v := (1 : Int32)) hx hb dX1_works_8 (by decide) ?_
  refine lv_icmp_ne (tgt := 16) hx hb dX1_works_9 (by decide) (fun c_9 => ?_) (fun c_9 => ?_)
  · refine lv_iconst (v := (0 : Int32)) hx hb dX1_works_16 (by decide) ?_
    have hP : va_P G vwCl (cat [dyW cyI A D]) H := hP
    have hD : va_D A9 (cat [dyW cyI A D]) := hD
    exact end_z hx hb hr hlocks hK hP hD hS (by simp [bI, c_9]) (Or.inl rfl) dX1_works_17
  · refine lv_iconst (v := (1 : Int32)) hx hb dX1_works_12 (by decide) ?_
    refine lv_goto (tgt := 17) hx hb dX1_works_13 (by decide) ?_
    have hP : va_P G vwCl (cat [dyW cyI A D]) H := hP
    have hD : va_D A9 (cat [dyW cyI A D]) := hD
    exact end_z hx hb hr hlocks hK hP hD hS (by simp [bI, c_9]) (Or.inr rfl) dX1_works_17
abbrev rm_X1_mayCome : Room := { frames := 2, cells := 0, slots := 0, locals := 42 }
set_option maxHeartbeats 4000000 in
set_option maxRecDepth 100000 in
theorem c_X1_mayCome (l : Launch) (G : va_G) (cyI cyO : ClassId) (A : Nat → Nat) (D : DS) (k : Nat) (hk : k < 6) : CI l G (TY cyI cyO) yX1_mayCome wsX1_mayCome rm_X1_mayCome [.ref (A 0), .int (nI (k))] [dyW cyI A D] (bI (!dHO D && !decide (D.2.2.1 k = 1))) [dyW cyI A D] := by
  refine wk_I (cc := cX1_mayCome) (maxL := 2) (ret := (some .boolean)) (by decide) rfl (Nat.le_of_ble_eq_true rfl) ?_
  intro p9 e9 s9 m9 b9 t9 c9 A9 ls hx hb hr hts hown hlocks hml hK hA hD hP hl hS hnm
  have hl : lv_has ls 2 [(0, .ref (A 0)), (1, .int (nI (k)))] := hl
  refine lv_aload_n hx hb dX1_mayCome_0 rfl (lv_at hl 0 rfl) ?_
  refine gVi (gs := [dyW cyI A D]) (As := []) (rest := []) ⟨hx, hb, hml, hown, hts⟩ (c_X1_isHandingOver l G cyI cyO A D) (cwV 0 hts gX1_mayCome_X1_isHandingOver rfl rfl rfl (by decide +kernel) ⟨Nat.le_of_ble_eq_true rfl, Nat.le_of_ble_eq_true rfl⟩) hK hP hD hS hA [0] rfl rfl rfl 0 1 rfl rfl rfl hl.1 rfl (Nat.le_of_ble_eq_true rfl) dX1_mayCome_1 ⟨Nat.le_refl _, Nat.le_refl _⟩ (fun H locs hP hD hS => ?_)
  have hP : va_P G vwCl (cat [dyW cyI A D]) H := hP
  have hD : va_D A9 (cat [dyW cyI A D]) := hD
  refine lv_if_ne (tgt := 19) hx hb dX1_mayCome_4 (by decide) (fun c_4 => ?_) (fun c_4 => ?_)
  · have c_4 : (dHO D) = true := bI_nz.mp c_4
    refine lv_iconst (v := (0 : Int32)) hx hb dX1_mayCome_19 (by decide) ?_
    have hP : va_P G vwCl (cat [dyW cyI A D]) H := hP
    have hD : va_D A9 (cat [dyW cyI A D]) := hD
    exact end_z hx hb hr hlocks hK hP hD hS (by simp_all [bI]) (Or.inl rfl) dX1_mayCome_20
  · have c_4 : (dHO D) = false := bI_z.mp c_4
    refine lv_aload_n hx hb dX1_mayCome_7 rfl (lv_at hl 0 rfl) ?_
    refine lv_iload_n hx hb dX1_mayCome_8 rfl (lv_at hl 1 rfl) ?_
    refine gVi (gs := [dyW cyI A D]) (As := [.int (nI (k))]) (rest := []) ⟨hx, hb, hml, hown, hts⟩ (c_X1_works l G cyI cyO A D k (by omega)) (cwV 1 hts gX1_mayCome_X1_works rfl rfl rfl (by decide +kernel) ⟨Nat.le_of_ble_eq_true rfl, Nat.le_of_ble_eq_true rfl⟩) hK hP hD hS hA [0] rfl rfl rfl 0 1 rfl rfl rfl hl.1 rfl (Nat.le_of_ble_eq_true rfl) dX1_mayCome_9 ⟨Nat.le_refl _, Nat.le_refl _⟩ (fun H locs hP hD hS => ?_)
    have hP : va_P G vwCl (cat [dyW cyI A D]) H := hP
    have hD : va_D A9 (cat [dyW cyI A D]) := hD
    refine lv_if_ne (tgt := 19) hx hb dX1_mayCome_12 (by decide) (fun c_12 => ?_) (fun c_12 => ?_)
    · have c_12 : (decide (D.2.2.1 k = 1)) = true := bI_nz.mp c_12
      have c_12 : (D.2.2.1 k = 1) := of_decide_eq_true c_12
      refine lv_iconst (v := (0 : Int32)) hx hb dX1_mayCome_19 (by decide) ?_
      have hP : va_P G vwCl (cat [dyW cyI A D]) H := hP
      have hD : va_D A9 (cat [dyW cyI A D]) := hD
      exact end_z hx hb hr hlocks hK hP hD hS (by simp_all [bI]) (Or.inl rfl) dX1_mayCome_20
    · have c_12 : (decide (D.2.2.1 k = 1)) = false := bI_z.mp c_12
      have c_12 : ¬ (D.2.2.1 k = 1) := of_decide_eq_false c_12
      refine lv_iconst (v := (1 : Int32)) hx hb dX1_mayCome_15 (by decide) ?_
      refine lv_goto (tgt := 20) hx hb dX1_mayCome_16 (by decide) ?_
      have hP : va_P G vwCl (cat [dyW cyI A D]) H := hP
      have hD : va_D A9 (cat [dyW cyI A D]) := hD
      exact end_z hx hb hr hlocks hK hP hD hS (by simp_all [bI]) (Or.inr rfl) dX1_mayCome_20
abbrev rm_X1_mayLeave : Room := { frames := 2, cells := 0, slots := 0, locals := 42 }
set_option maxHeartbeats 4000000 in
set_option maxRecDepth 100000 in
theorem c_X1_mayLeave (l : Launch) (G : va_G) (cyI cyO : ClassId) (A : Nat → Nat) (D : DS) (k : Nat) (hk : k < 6) : CI l G (TY cyI cyO) yX1_mayLeave wsX1_mayLeave rm_X1_mayLeave [.ref (A 0), .int (nI (k))] [dyW cyI A D] (bI (!dHO D && decide (D.2.2.1 k = 1))) [dyW cyI A D] := by
  refine wk_I (cc := cX1_mayLeave) (maxL := 2) (ret := (some .boolean)) (by decide) rfl (Nat.le_of_ble_eq_true rfl) ?_
  intro p9 e9 s9 m9 b9 t9 c9 A9 ls hx hb hr hts hown hlocks hml hK hA hD hP hl hS hnm
  have hl : lv_has ls 2 [(0, .ref (A 0)), (1, .int (nI (k)))] := hl
  refine lv_aload_n hx hb dX1_mayLeave_0 rfl (lv_at hl 0 rfl) ?_
  refine gVi (gs := [dyW cyI A D]) (As := []) (rest := []) ⟨hx, hb, hml, hown, hts⟩ (c_X1_isHandingOver l G cyI cyO A D) (cwV 0 hts gX1_mayLeave_X1_isHandingOver rfl rfl rfl (by decide +kernel) ⟨Nat.le_of_ble_eq_true rfl, Nat.le_of_ble_eq_true rfl⟩) hK hP hD hS hA [0] rfl rfl rfl 0 1 rfl rfl rfl hl.1 rfl (Nat.le_of_ble_eq_true rfl) dX1_mayLeave_1 ⟨Nat.le_refl _, Nat.le_refl _⟩ (fun H locs hP hD hS => ?_)
  have hP : va_P G vwCl (cat [dyW cyI A D]) H := hP
  have hD : va_D A9 (cat [dyW cyI A D]) := hD
  refine lv_if_ne (tgt := 19) hx hb dX1_mayLeave_4 (by decide) (fun c_4 => ?_) (fun c_4 => ?_)
  · have c_4 : (dHO D) = true := bI_nz.mp c_4
    refine lv_iconst (v := (0 : Int32)) hx hb dX1_mayLeave_19 (by decide) ?_
    have hP : va_P G vwCl (cat [dyW cyI A D]) H := hP
    have hD : va_D A9 (cat [dyW cyI A D]) := hD
    exact end_z hx hb hr hlocks hK hP hD hS (by simp_all [bI]) (Or.inl rfl) dX1_mayLeave_20
  · have c_4 : (dHO D) = false := bI_z.mp c_4
    refine lv_aload_n hx hb dX1_mayLeave_7 rfl (lv_at hl 0 rfl) ?_
    refine lv_iload_n hx hb dX1_mayLeave_8 rfl (lv_at hl 1 rfl) ?_
    refine gVi (gs := [dyW cyI A D]) (As := [.int (nI (k))]) (rest := []) ⟨hx, hb, hml, hown, hts⟩ (c_X1_works l G cyI cyO A D k (by omega)) (cwV 1 hts gX1_mayLeave_X1_works rfl rfl rfl (by decide +kernel) ⟨Nat.le_of_ble_eq_true rfl, Nat.le_of_ble_eq_true rfl⟩) hK hP hD hS hA [0] rfl rfl rfl 0 1 rfl rfl rfl hl.1 rfl (Nat.le_of_ble_eq_true rfl) dX1_mayLeave_9 ⟨Nat.le_refl _, Nat.le_refl _⟩ (fun H locs hP hD hS => ?_)
    have hP : va_P G vwCl (cat [dyW cyI A D]) H := hP
    have hD : va_D A9 (cat [dyW cyI A D]) := hD
    refine lv_if_eq (tgt := 19) hx hb dX1_mayLeave_12 (by decide) (fun c_12 => ?_) (fun c_12 => ?_)
    · have c_12 : (decide (D.2.2.1 k = 1)) = false := bI_z.mp c_12
      have c_12 : ¬ (D.2.2.1 k = 1) := of_decide_eq_false c_12
      refine lv_iconst (v := (0 : Int32)) hx hb dX1_mayLeave_19 (by decide) ?_
      have hP : va_P G vwCl (cat [dyW cyI A D]) H := hP
      have hD : va_D A9 (cat [dyW cyI A D]) := hD
      exact end_z hx hb hr hlocks hK hP hD hS (by simp_all [bI]) (Or.inl rfl) dX1_mayLeave_20
    · have c_12 : (decide (D.2.2.1 k = 1)) = true := bI_nz.mp c_12
      have c_12 : (D.2.2.1 k = 1) := of_decide_eq_true c_12
      refine lv_iconst (v := (1 : Int32)) hx hb dX1_mayLeave_15 (by decide) ?_
      refine lv_goto (tgt := 20) hx hb dX1_mayLeave_16 (by decide) ?_
      have hP : va_P G vwCl (cat [dyW cyI A D]) H := hP
      have hD : va_D A9 (cat [dyW cyI A D]) := hD
      exact end_z hx hb hr hlocks hK hP hD hS (by simp_all [bI]) (Or.inr rfl) dX1_mayLeave_20
abbrev rm_X1_addOne : Room := { frames := 1, cells := 0, slots := 0, locals := 22 }
set_option maxHeartbeats 4000000 in
set_option maxRecDepth 100000 in
theorem c_X1_addOne (l : Launch) (G : va_G) (cyI cyO : ClassId) (A : Nat → Nat) (D : DS) (v : Int32) (hn : D.2.2.2.2.2.1 < 20) : CI l G (TY cyI cyO) yX1_addOne wsX1_addOne rm_X1_addOne [.ref (A 0), .int (v)] [dyW cyI A D] (nI (D.2.2.2.2.2.1)) [dyW cyI A ((upd D.1 D.2.2.2.2.2.1 v, upd D.2.1 D.2.2.2.2.2.1 (-1), D.2.2.1, D.2.2.2.1, D.2.2.2.2.1, D.2.2.2.2.2.1 + 1, D.2.2.2.2.2.2.1, D.2.2.2.2.2.2.2.1, D.2.2.2.2.2.2.2.2.1, D.2.2.2.2.2.2.2.2.2))] := by
  refine wk_I (cc := cX1_addOne) (maxL := 3) (ret := (some .int)) (by decide) rfl (Nat.le_of_ble_eq_true rfl) ?_
  intro p9 e9 s9 m9 b9 t9 c9 A9 ls hx hb hr hts hown hlocks hml hK hA hD hP hl hS hnm
  have hl : lv_has ls 3 [(0, .ref (A 0)), (1, .int (v))] := hl
  have hinX1 : ∀ w ∈ wsX10, w ∈ wsX1_addOne := by decide +kernel
  have hf14 := hts (.fieldLink RX1 14 "DoorstepRounds$Dairy" "pints" "LDoorstepRounds$Row;") (by decide +kernel)
  have hf20 := hts (.fieldLink RX1 20 "DoorstepRounds$Dairy" "owners" "LDoorstepRounds$Row;") (by decide +kernel)
  have hf32 := hts (.fieldLink RX1 32 "DoorstepRounds$Dairy" "count" "I") (by decide +kernel)
  refine lv_aload_n hx hb dX1_addOne_0 rfl (lv_at hl 0 rfl) ?_
  refine va_get (v := .int (nI (D.2.2.2.2.2.1))) (C := RX1) (T := TX1) (N := 10) hx hb hts hinX1 hown hK hP 0 rfl rfl 5 (by decide) hf32 (fun _ h9 => h9) rfl dX1_addOne_1 ?_
  refine lv_istore_n (lv' := [(2, .int (nI (D.2.2.2.2.2.1))), (0, .ref (A 0)), (1, .int (v))]) hx hb dX1_addOne_4 rfl hl (by decide) rfl (fun ls hl => ?_)
  refine lv_aload_n hx hb dX1_addOne_5 rfl (lv_at hl 1 rfl) ?_
  refine va_get (v := .ref (A 1)) (C := RX1) (T := TX1) (N := 10) hx hb hts hinX1 hown hK hP 0 rfl rfl 0 (by decide) hf14 (fun _ h9 => h9) rfl dX1_addOne_6 ?_
  refine lv_iload_n hx hb dX1_addOne_9 rfl (lv_at hl 0 rfl) ?_
  refine lv_iload_n hx hb dX1_addOne_10 rfl (lv_at hl 2 rfl) ?_
  have hP : va_P G vwCl (cat [[(A 0, .inr (1, [.ref (A 1), .ref (A 2), .ref (A 3), .ref (A 4), .ref (A 5), .int (nI (D.2.2.2.2.2.1)), .int (D.2.2.2.2.2.2.1), .int (D.2.2.2.2.2.2.2.1), .int (D.2.2.2.2.2.2.2.2.1), .int (D.2.2.2.2.2.2.2.2.2)]))], rowW cyI (A 1) (A 6) (20) (D.1), rowW cyI (A 2) (A 7) (20) (D.2.1), rowW cyI (A 3) (A 8) (6) (D.2.2.1), rowW cyI (A 4) (A 9) (20) (D.2.2.2.1), rowW cyI (A 5) (A 10) (20) (D.2.2.2.2.1)]) s9.heap := hP
  have hD : va_D A9 (cat [[(A 0, .inr (1, [.ref (A 1), .ref (A 2), .ref (A 3), .ref (A 4), .ref (A 5), .int (nI (D.2.2.2.2.2.1)), .int (D.2.2.2.2.2.2.1), .int (D.2.2.2.2.2.2.2.1), .int (D.2.2.2.2.2.2.2.2.1), .int (D.2.2.2.2.2.2.2.2.2)]))], rowW cyI (A 1) (A 6) (20) (D.1), rowW cyI (A 2) (A 7) (20) (D.2.1), rowW cyI (A 3) (A 8) (6) (D.2.2.1), rowW cyI (A 4) (A 9) (20) (D.2.2.2.1), rowW cyI (A 5) (A 10) (20) (D.2.2.2.2.1)]) := hD
  refine gVv (gs := [[(A 0, .inr (1, [.ref (A 1), .ref (A 2), .ref (A 3), .ref (A 4), .ref (A 5), .int (nI (D.2.2.2.2.2.1)), .int (D.2.2.2.2.2.2.1), .int (D.2.2.2.2.2.2.2.1), .int (D.2.2.2.2.2.2.2.2.1), .int (D.2.2.2.2.2.2.2.2.2)]))], rowW cyI (A 1) (A 6) (20) (D.1), rowW cyI (A 2) (A 7) (20) (D.2.1), rowW cyI (A 3) (A 8) (6) (D.2.2.1), rowW cyI (A 4) (A 9) (20) (D.2.2.2.1), rowW cyI (A 5) (A 10) (20) (D.2.2.2.2.1)]) (As := [.int (nI (D.2.2.2.2.2.1)), .int (v)]) (rest := []) ⟨hx, hb, hml, hown, hts⟩ (c_X3_put l G cyI cyO (A 1) (A 6) 20 D.1 (nI (D.2.2.2.2.2.1)) v (by omega)) (cwV 2 hts gX1_addOne_X3_put rfl rfl rfl (by decide +kernel) ⟨Nat.le_of_ble_eq_true rfl, Nat.le_of_ble_eq_true rfl⟩) hK hP hD hS hA [1] rfl rfl rfl 0 3 rfl rfl rfl hl.1 rfl (Nat.le_of_ble_eq_true rfl) dX1_addOne_11 ⟨Nat.le_refl _, Nat.le_refl _⟩ (fun H locs hP hD hS => ?_)
  have hP : va_P G vwCl (cat [[(A 0, .inr (1, [.ref (A 1), .ref (A 2), .ref (A 3), .ref (A 4), .ref (A 5), .int (nI (D.2.2.2.2.2.1)), .int (D.2.2.2.2.2.2.1), .int (D.2.2.2.2.2.2.2.1), .int (D.2.2.2.2.2.2.2.2.1), .int (D.2.2.2.2.2.2.2.2.2)]))], rowW cyI (A 1) (A 6) (20) (rowPut D.1 20 (nI (D.2.2.2.2.2.1)) v), rowW cyI (A 2) (A 7) (20) (D.2.1), rowW cyI (A 3) (A 8) (6) (D.2.2.1), rowW cyI (A 4) (A 9) (20) (D.2.2.2.1), rowW cyI (A 5) (A 10) (20) (D.2.2.2.2.1)]) H := hP
  have hD : va_D A9 (cat [[(A 0, .inr (1, [.ref (A 1), .ref (A 2), .ref (A 3), .ref (A 4), .ref (A 5), .int (nI (D.2.2.2.2.2.1)), .int (D.2.2.2.2.2.2.1), .int (D.2.2.2.2.2.2.2.1), .int (D.2.2.2.2.2.2.2.2.1), .int (D.2.2.2.2.2.2.2.2.2)]))], rowW cyI (A 1) (A 6) (20) (rowPut D.1 20 (nI (D.2.2.2.2.2.1)) v), rowW cyI (A 2) (A 7) (20) (D.2.1), rowW cyI (A 3) (A 8) (6) (D.2.2.1), rowW cyI (A 4) (A 9) (20) (D.2.2.2.1), rowW cyI (A 5) (A 10) (20) (D.2.2.2.2.1)]) := hD
  rw [rowPut_in (by omega) (by omega)] at hP hD
  have hP : va_P G vwCl (cat [[(A 0, .inr (1, [.ref (A 1), .ref (A 2), .ref (A 3), .ref (A 4), .ref (A 5), .int (nI (D.2.2.2.2.2.1)), .int (D.2.2.2.2.2.2.1), .int (D.2.2.2.2.2.2.2.1), .int (D.2.2.2.2.2.2.2.2.1), .int (D.2.2.2.2.2.2.2.2.2)]))], rowW cyI (A 1) (A 6) (20) (upd D.1 D.2.2.2.2.2.1 v), rowW cyI (A 2) (A 7) (20) (D.2.1), rowW cyI (A 3) (A 8) (6) (D.2.2.1), rowW cyI (A 4) (A 9) (20) (D.2.2.2.1), rowW cyI (A 5) (A 10) (20) (D.2.2.2.2.1)]) H := hP
  have hD : va_D A9 (cat [[(A 0, .inr (1, [.ref (A 1), .ref (A 2), .ref (A 3), .ref (A 4), .ref (A 5), .int (nI (D.2.2.2.2.2.1)), .int (D.2.2.2.2.2.2.1), .int (D.2.2.2.2.2.2.2.1), .int (D.2.2.2.2.2.2.2.2.1), .int (D.2.2.2.2.2.2.2.2.2)]))], rowW cyI (A 1) (A 6) (20) (upd D.1 D.2.2.2.2.2.1 v), rowW cyI (A 2) (A 7) (20) (D.2.1), rowW cyI (A 3) (A 8) (6) (D.2.2.1), rowW cyI (A 4) (A 9) (20) (D.2.2.2.1), rowW cyI (A 5) (A 10) (20) (D.2.2.2.2.1)]) := hD
  refine lv_aload_n hx hb dX1_addOne_14 rfl (lv_at hl 1 rfl) ?_
  refine va_get (v := .ref (A 2)) (C := RX1) (T := TX1) (N := 10) hx hb hts hinX1 hown hK hP 0 rfl rfl 1 (by decide) hf20 (fun _ h9 => h9) rfl dX1_addOne_15 ?_
  refine lv_iload_n hx hb dX1_addOne_18 rfl (lv_at hl 0 rfl) ?_
  refine lv_iconst (v := (-1 : Int32)) hx hb dX1_addOne_19 (by decide) ?_
  refine gVv (gs := [[(A 0, .inr (1, [.ref (A 1), .ref (A 2), .ref (A 3), .ref (A 4), .ref (A 5), .int (nI (D.2.2.2.2.2.1)), .int (D.2.2.2.2.2.2.1), .int (D.2.2.2.2.2.2.2.1), .int (D.2.2.2.2.2.2.2.2.1), .int (D.2.2.2.2.2.2.2.2.2)]))], rowW cyI (A 1) (A 6) (20) (upd D.1 D.2.2.2.2.2.1 v), rowW cyI (A 2) (A 7) (20) (D.2.1), rowW cyI (A 3) (A 8) (6) (D.2.2.1), rowW cyI (A 4) (A 9) (20) (D.2.2.2.1), rowW cyI (A 5) (A 10) (20) (D.2.2.2.2.1)]) (As := [.int (nI (D.2.2.2.2.2.1)), .int ((-1 : Int32))]) (rest := []) ⟨hx, hb, hml, hown, hts⟩ (c_X3_put l G cyI cyO (A 2) (A 7) 20 D.2.1 (nI (D.2.2.2.2.2.1)) ((-1 : Int32)) (by omega)) (cwV 2 hts gX1_addOne_X3_put rfl rfl rfl (by decide +kernel) ⟨Nat.le_of_ble_eq_true rfl, Nat.le_of_ble_eq_true rfl⟩) hK hP hD hS hA [2] rfl rfl rfl 0 3 rfl rfl rfl hl.1 rfl (Nat.le_of_ble_eq_true rfl) dX1_addOne_20 ⟨Nat.le_refl _, Nat.le_refl _⟩ (fun H locs hP hD hS => ?_)
  have hP : va_P G vwCl (cat [[(A 0, .inr (1, [.ref (A 1), .ref (A 2), .ref (A 3), .ref (A 4), .ref (A 5), .int (nI (D.2.2.2.2.2.1)), .int (D.2.2.2.2.2.2.1), .int (D.2.2.2.2.2.2.2.1), .int (D.2.2.2.2.2.2.2.2.1), .int (D.2.2.2.2.2.2.2.2.2)]))], rowW cyI (A 1) (A 6) (20) (upd D.1 D.2.2.2.2.2.1 v), rowW cyI (A 2) (A 7) (20) (rowPut D.2.1 20 (nI (D.2.2.2.2.2.1)) ((-1 : Int32))), rowW cyI (A 3) (A 8) (6) (D.2.2.1), rowW cyI (A 4) (A 9) (20) (D.2.2.2.1), rowW cyI (A 5) (A 10) (20) (D.2.2.2.2.1)]) H := hP
  have hD : va_D A9 (cat [[(A 0, .inr (1, [.ref (A 1), .ref (A 2), .ref (A 3), .ref (A 4), .ref (A 5), .int (nI (D.2.2.2.2.2.1)), .int (D.2.2.2.2.2.2.1), .int (D.2.2.2.2.2.2.2.1), .int (D.2.2.2.2.2.2.2.2.1), .int (D.2.2.2.2.2.2.2.2.2)]))], rowW cyI (A 1) (A 6) (20) (upd D.1 D.2.2.2.2.2.1 v), rowW cyI (A 2) (A 7) (20) (rowPut D.2.1 20 (nI (D.2.2.2.2.2.1)) ((-1 : Int32))), rowW cyI (A 3) (A 8) (6) (D.2.2.1), rowW cyI (A 4) (A 9) (20) (D.2.2.2.1), rowW cyI (A 5) (A 10) (20) (D.2.2.2.2.1)]) := hD
  rw [rowPut_in (by omega) (by omega)] at hP hD
  have hP : va_P G vwCl (cat [[(A 0, .inr (1, [.ref (A 1), .ref (A 2), .ref (A 3), .ref (A 4), .ref (A 5), .int (nI (D.2.2.2.2.2.1)), .int (D.2.2.2.2.2.2.1), .int (D.2.2.2.2.2.2.2.1), .int (D.2.2.2.2.2.2.2.2.1), .int (D.2.2.2.2.2.2.2.2.2)]))], rowW cyI (A 1) (A 6) (20) (upd D.1 D.2.2.2.2.2.1 v), rowW cyI (A 2) (A 7) (20) (upd D.2.1 D.2.2.2.2.2.1 (-1)), rowW cyI (A 3) (A 8) (6) (D.2.2.1), rowW cyI (A 4) (A 9) (20) (D.2.2.2.1), rowW cyI (A 5) (A 10) (20) (D.2.2.2.2.1)]) H := hP
  have hD : va_D A9 (cat [[(A 0, .inr (1, [.ref (A 1), .ref (A 2), .ref (A 3), .ref (A 4), .ref (A 5), .int (nI (D.2.2.2.2.2.1)), .int (D.2.2.2.2.2.2.1), .int (D.2.2.2.2.2.2.2.1), .int (D.2.2.2.2.2.2.2.2.1), .int (D.2.2.2.2.2.2.2.2.2)]))], rowW cyI (A 1) (A 6) (20) (upd D.1 D.2.2.2.2.2.1 v), rowW cyI (A 2) (A 7) (20) (upd D.2.1 D.2.2.2.2.2.1 (-1)), rowW cyI (A 3) (A 8) (6) (D.2.2.1), rowW cyI (A 4) (A 9) (20) (D.2.2.2.1), rowW cyI (A 5) (A 10) (20) (D.2.2.2.2.1)]) := hD
  refine lv_aload_n hx hb dX1_addOne_23 rfl (lv_at hl 1 rfl) ?_
  refine lv_dup hx hb dX1_addOne_24 rfl ?_
  refine va_get (v := .int (nI (D.2.2.2.2.2.1))) (C := RX1) (T := TX1) (N := 10) hx hb hts hinX1 hown hK hP 0 rfl rfl 5 (by decide) hf32 (fun _ h9 => h9) rfl dX1_addOne_25 ?_
  refine lv_iconst (v := (1 : Int32)) hx hb dX1_addOne_28 (by decide) ?_
  refine lv_iadd hx hb dX1_addOne_29 ?_
  refine top_i (x' := nI (D.2.2.2.2.2.1 + 1)) (nI_add (D.2.2.2.2.2.1) (1)) ?_
  refine va_put (v := .int (nI (D.2.2.2.2.2.1 + 1))) (ty := .int) (C := RX1) (T := TX1) (N := 10) hx hb hts hinX1 tyX1 tyX1_ok nmX1 hown hK hP hD hS 0 rfl rfl 5 (by decide) hf32 (fun _ h9 => h9) rfl (by first | rfl | decide +kernel) rfl rfl (Nat.le_of_ble_eq_true rfl) dX1_addOne_30 (fun H locs hP hD hS => ?_)
  have hP : va_P G vwCl (cat [[(A 0, .inr (1, [.ref (A 1), .ref (A 2), .ref (A 3), .ref (A 4), .ref (A 5), .int (nI (D.2.2.2.2.2.1 + 1)), .int (D.2.2.2.2.2.2.1), .int (D.2.2.2.2.2.2.2.1), .int (D.2.2.2.2.2.2.2.2.1), .int (D.2.2.2.2.2.2.2.2.2)]))], rowW cyI (A 1) (A 6) (20) (upd D.1 D.2.2.2.2.2.1 v), rowW cyI (A 2) (A 7) (20) (upd D.2.1 D.2.2.2.2.2.1 (-1)), rowW cyI (A 3) (A 8) (6) (D.2.2.1), rowW cyI (A 4) (A 9) (20) (D.2.2.2.1), rowW cyI (A 5) (A 10) (20) (D.2.2.2.2.1)]) H := hP
  have hD : va_D A9 (cat [[(A 0, .inr (1, [.ref (A 1), .ref (A 2), .ref (A 3), .ref (A 4), .ref (A 5), .int (nI (D.2.2.2.2.2.1 + 1)), .int (D.2.2.2.2.2.2.1), .int (D.2.2.2.2.2.2.2.1), .int (D.2.2.2.2.2.2.2.2.1), .int (D.2.2.2.2.2.2.2.2.2)]))], rowW cyI (A 1) (A 6) (20) (upd D.1 D.2.2.2.2.2.1 v), rowW cyI (A 2) (A 7) (20) (upd D.2.1 D.2.2.2.2.2.1 (-1)), rowW cyI (A 3) (A 8) (6) (D.2.2.1), rowW cyI (A 4) (A 9) (20) (D.2.2.2.1), rowW cyI (A 5) (A 10) (20) (D.2.2.2.2.1)]) := hD
  refine lv_iload_n hx hb dX1_addOne_33 rfl (lv_at hl 0 rfl) ?_
  have hP : va_P G vwCl (cat [dyW cyI A ((upd D.1 D.2.2.2.2.2.1 v, upd D.2.1 D.2.2.2.2.2.1 (-1), D.2.2.1, D.2.2.2.1, D.2.2.2.2.1, D.2.2.2.2.2.1 + 1, D.2.2.2.2.2.2.1, D.2.2.2.2.2.2.2.1, D.2.2.2.2.2.2.2.2.1, D.2.2.2.2.2.2.2.2.2))]) H := hP
  have hD : va_D A9 (cat [dyW cyI A ((upd D.1 D.2.2.2.2.2.1 v, upd D.2.1 D.2.2.2.2.2.1 (-1), D.2.2.1, D.2.2.2.1, D.2.2.2.2.1, D.2.2.2.2.2.1 + 1, D.2.2.2.2.2.2.1, D.2.2.2.2.2.2.2.1, D.2.2.2.2.2.2.2.2.1, D.2.2.2.2.2.2.2.2.2))]) := hD
  exact end_i hx hb hr hlocks hK hP hD hS (rfl) dX1_addOne_34
abbrev rm_X1_removeOne : Room := { frames := 1, cells := 0, slots := 0, locals := 22 }
set_option maxHeartbeats 4000000 in
set_option maxRecDepth 100000 in
theorem c_X1_removeOne (l : Launch) (G : va_G) (cyI cyO : ClassId) (A : Nat → Nat) (D : DS) (k : Nat) (hn : D.2.2.2.2.2.1 ≤ 20) (hk : k < D.2.2.2.2.2.1) : CI l G (TY cyI cyO) yX1_removeOne wsX1_removeOne rm_X1_removeOne [.ref (A 0), .int (nI (k))] [dyW cyI A D] (D.2.1 k) [dyW cyI A ((rowGap D.1 20 k, rowGap D.2.1 20 k, D.2.2.1, D.2.2.2.1, D.2.2.2.2.1, D.2.2.2.2.2.1 - 1, D.2.2.2.2.2.2.1, D.2.2.2.2.2.2.2.1, D.2.2.2.2.2.2.2.2.1, D.2.2.2.2.2.2.2.2.2))] := by
  refine wk_I (cc := cX1_removeOne) (maxL := 3) (ret := (some .int)) (by decide) rfl (Nat.le_of_ble_eq_true rfl) ?_
  intro p9 e9 s9 m9 b9 t9 c9 A9 ls hx hb hr hts hown hlocks hml hK hA hD hP hl hS hnm
  have hl : lv_has ls 3 [(0, .ref (A 0)), (1, .int (nI (k)))] := hl
  have hinX1 : ∀ w ∈ wsX10, w ∈ wsX1_removeOne := by decide +kernel
  have hf14 := hts (.fieldLink RX1 14 "DoorstepRounds$Dairy" "pints" "LDoorstepRounds$Row;") (by decide +kernel)
  have hf20 := hts (.fieldLink RX1 20 "DoorstepRounds$Dairy" "owners" "LDoorstepRounds$Row;") (by decide +kernel)
  have hf32 := hts (.fieldLink RX1 32 "DoorstepRounds$Dairy" "count" "I") (by decide +kernel)
  refine lv_aload_n hx hb dX1_removeOne_0 rfl (lv_at hl 0 rfl) ?_
  refine va_get (v := .ref (A 2)) (C := RX1) (T := TX1) (N := 10) hx hb hts hinX1 hown hK hP 0 rfl rfl 1 (by decide) hf20 (fun _ h9 => h9) rfl dX1_removeOne_1 ?_
  refine lv_iload_n hx hb dX1_removeOne_4 rfl (lv_at hl 1 rfl) ?_
  have hP : va_P G vwCl (cat [[(A 0, .inr (1, [.ref (A 1), .ref (A 2), .ref (A 3), .ref (A 4), .ref (A 5), .int (nI (D.2.2.2.2.2.1)), .int (D.2.2.2.2.2.2.1), .int (D.2.2.2.2.2.2.2.1), .int (D.2.2.2.2.2.2.2.2.1), .int (D.2.2.2.2.2.2.2.2.2)]))], rowW cyI (A 1) (A 6) (20) (D.1), rowW cyI (A 2) (A 7) (20) (D.2.1), rowW cyI (A 3) (A 8) (6) (D.2.2.1), rowW cyI (A 4) (A 9) (20) (D.2.2.2.1), rowW cyI (A 5) (A 10) (20) (D.2.2.2.2.1)]) s9.heap := hP
  have hD : va_D A9 (cat [[(A 0, .inr (1, [.ref (A 1), .ref (A 2), .ref (A 3), .ref (A 4), .ref (A 5), .int (nI (D.2.2.2.2.2.1)), .int (D.2.2.2.2.2.2.1), .int (D.2.2.2.2.2.2.2.1), .int (D.2.2.2.2.2.2.2.2.1), .int (D.2.2.2.2.2.2.2.2.2)]))], rowW cyI (A 1) (A 6) (20) (D.1), rowW cyI (A 2) (A 7) (20) (D.2.1), rowW cyI (A 3) (A 8) (6) (D.2.2.1), rowW cyI (A 4) (A 9) (20) (D.2.2.2.1), rowW cyI (A 5) (A 10) (20) (D.2.2.2.2.1)]) := hD
  refine gVi (gs := [[(A 0, .inr (1, [.ref (A 1), .ref (A 2), .ref (A 3), .ref (A 4), .ref (A 5), .int (nI (D.2.2.2.2.2.1)), .int (D.2.2.2.2.2.2.1), .int (D.2.2.2.2.2.2.2.1), .int (D.2.2.2.2.2.2.2.2.1), .int (D.2.2.2.2.2.2.2.2.2)]))], rowW cyI (A 1) (A 6) (20) (D.1), rowW cyI (A 2) (A 7) (20) (D.2.1), rowW cyI (A 3) (A 8) (6) (D.2.2.1), rowW cyI (A 4) (A 9) (20) (D.2.2.2.1), rowW cyI (A 5) (A 10) (20) (D.2.2.2.2.1)]) (As := [.int (nI (k))]) (rest := []) ⟨hx, hb, hml, hown, hts⟩ (c_X3_at l G cyI cyO (A 2) (A 7) 20 D.2.1 (nI (k)) (by omega)) (cwV 1 hts gX1_removeOne_X3_at rfl rfl rfl (by decide +kernel) ⟨Nat.le_of_ble_eq_true rfl, Nat.le_of_ble_eq_true rfl⟩) hK hP hD hS hA [2] rfl rfl rfl 0 3 rfl rfl rfl hl.1 rfl (Nat.le_of_ble_eq_true rfl) dX1_removeOne_5 ⟨Nat.le_refl _, Nat.le_refl _⟩ (fun H locs hP hD hS => ?_)
  have hP : va_P G vwCl (cat [[(A 0, .inr (1, [.ref (A 1), .ref (A 2), .ref (A 3), .ref (A 4), .ref (A 5), .int (nI (D.2.2.2.2.2.1)), .int (D.2.2.2.2.2.2.1), .int (D.2.2.2.2.2.2.2.1), .int (D.2.2.2.2.2.2.2.2.1), .int (D.2.2.2.2.2.2.2.2.2)]))], rowW cyI (A 1) (A 6) (20) (D.1), rowW cyI (A 2) (A 7) (20) (D.2.1), rowW cyI (A 3) (A 8) (6) (D.2.2.1), rowW cyI (A 4) (A 9) (20) (D.2.2.2.1), rowW cyI (A 5) (A 10) (20) (D.2.2.2.2.1)]) H := hP
  have hD : va_D A9 (cat [[(A 0, .inr (1, [.ref (A 1), .ref (A 2), .ref (A 3), .ref (A 4), .ref (A 5), .int (nI (D.2.2.2.2.2.1)), .int (D.2.2.2.2.2.2.1), .int (D.2.2.2.2.2.2.2.1), .int (D.2.2.2.2.2.2.2.2.1), .int (D.2.2.2.2.2.2.2.2.2)]))], rowW cyI (A 1) (A 6) (20) (D.1), rowW cyI (A 2) (A 7) (20) (D.2.1), rowW cyI (A 3) (A 8) (6) (D.2.2.1), rowW cyI (A 4) (A 9) (20) (D.2.2.2.1), rowW cyI (A 5) (A 10) (20) (D.2.2.2.2.1)]) := hD
  refine top_i (x' := D.2.1 k) (rowAt_in (by omega) (by omega)) ?_
  refine lv_istore_n (lv' := [(2, .int (D.2.1 k)), (0, .ref (A 0)), (1, .int (nI (k)))]) hx hb dX1_removeOne_8 rfl hl (by decide) rfl (fun ls hl => ?_)
  refine lv_aload_n hx hb dX1_removeOne_9 rfl (lv_at hl 1 rfl) ?_
  refine va_get (v := .ref (A 1)) (C := RX1) (T := TX1) (N := 10) hx hb hts hinX1 hown hK hP 0 rfl rfl 0 (by decide) hf14 (fun _ h9 => h9) rfl dX1_removeOne_10 ?_
  refine lv_iload_n hx hb dX1_removeOne_13 rfl (lv_at hl 2 rfl) ?_
  refine gVv (gs := [[(A 0, .inr (1, [.ref (A 1), .ref (A 2), .ref (A 3), .ref (A 4), .ref (A 5), .int (nI (D.2.2.2.2.2.1)), .int (D.2.2.2.2.2.2.1), .int (D.2.2.2.2.2.2.2.1), .int (D.2.2.2.2.2.2.2.2.1), .int (D.2.2.2.2.2.2.2.2.2)]))], rowW cyI (A 1) (A 6) (20) (D.1), rowW cyI (A 2) (A 7) (20) (D.2.1), rowW cyI (A 3) (A 8) (6) (D.2.2.1), rowW cyI (A 4) (A 9) (20) (D.2.2.2.1), rowW cyI (A 5) (A 10) (20) (D.2.2.2.2.1)]) (As := [.int (nI (k))]) (rest := []) ⟨hx, hb, hml, hown, hts⟩ (c_X3_closeGap l G cyI cyO (A 1) (A 6) 20 D.1 k (by omega) (by omega)) (cwV 1 hts gX1_removeOne_X3_closeGap rfl rfl rfl (by decide +kernel) ⟨Nat.le_of_ble_eq_true rfl, Nat.le_of_ble_eq_true rfl⟩) hK hP hD hS hA [1] rfl rfl rfl 0 3 rfl rfl rfl hl.1 rfl (Nat.le_of_ble_eq_true rfl) dX1_removeOne_14 ⟨Nat.le_refl _, Nat.le_refl _⟩ (fun H locs hP hD hS => ?_)
  have hP : va_P G vwCl (cat [[(A 0, .inr (1, [.ref (A 1), .ref (A 2), .ref (A 3), .ref (A 4), .ref (A 5), .int (nI (D.2.2.2.2.2.1)), .int (D.2.2.2.2.2.2.1), .int (D.2.2.2.2.2.2.2.1), .int (D.2.2.2.2.2.2.2.2.1), .int (D.2.2.2.2.2.2.2.2.2)]))], rowW cyI (A 1) (A 6) (20) (rowGap D.1 20 k), rowW cyI (A 2) (A 7) (20) (D.2.1), rowW cyI (A 3) (A 8) (6) (D.2.2.1), rowW cyI (A 4) (A 9) (20) (D.2.2.2.1), rowW cyI (A 5) (A 10) (20) (D.2.2.2.2.1)]) H := hP
  have hD : va_D A9 (cat [[(A 0, .inr (1, [.ref (A 1), .ref (A 2), .ref (A 3), .ref (A 4), .ref (A 5), .int (nI (D.2.2.2.2.2.1)), .int (D.2.2.2.2.2.2.1), .int (D.2.2.2.2.2.2.2.1), .int (D.2.2.2.2.2.2.2.2.1), .int (D.2.2.2.2.2.2.2.2.2)]))], rowW cyI (A 1) (A 6) (20) (rowGap D.1 20 k), rowW cyI (A 2) (A 7) (20) (D.2.1), rowW cyI (A 3) (A 8) (6) (D.2.2.1), rowW cyI (A 4) (A 9) (20) (D.2.2.2.1), rowW cyI (A 5) (A 10) (20) (D.2.2.2.2.1)]) := hD
  refine lv_aload_n hx hb dX1_removeOne_17 rfl (lv_at hl 1 rfl) ?_
  refine va_get (v := .ref (A 2)) (C := RX1) (T := TX1) (N := 10) hx hb hts hinX1 hown hK hP 0 rfl rfl 1 (by decide) hf20 (fun _ h9 => h9) rfl dX1_removeOne_18 ?_
  refine lv_iload_n hx hb dX1_removeOne_21 rfl (lv_at hl 2 rfl) ?_
  refine gVv (gs := [[(A 0, .inr (1, [.ref (A 1), .ref (A 2), .ref (A 3), .ref (A 4), .ref (A 5), .int (nI (D.2.2.2.2.2.1)), .int (D.2.2.2.2.2.2.1), .int (D.2.2.2.2.2.2.2.1), .int (D.2.2.2.2.2.2.2.2.1), .int (D.2.2.2.2.2.2.2.2.2)]))], rowW cyI (A 1) (A 6) (20) (rowGap D.1 20 k), rowW cyI (A 2) (A 7) (20) (D.2.1), rowW cyI (A 3) (A 8) (6) (D.2.2.1), rowW cyI (A 4) (A 9) (20) (D.2.2.2.1), rowW cyI (A 5) (A 10) (20) (D.2.2.2.2.1)]) (As := [.int (nI (k))]) (rest := []) ⟨hx, hb, hml, hown, hts⟩ (c_X3_closeGap l G cyI cyO (A 2) (A 7) 20 D.2.1 k (by omega) (by omega)) (cwV 1 hts gX1_removeOne_X3_closeGap rfl rfl rfl (by decide +kernel) ⟨Nat.le_of_ble_eq_true rfl, Nat.le_of_ble_eq_true rfl⟩) hK hP hD hS hA [2] rfl rfl rfl 0 3 rfl rfl rfl hl.1 rfl (Nat.le_of_ble_eq_true rfl) dX1_removeOne_22 ⟨Nat.le_refl _, Nat.le_refl _⟩ (fun H locs hP hD hS => ?_)
  have hP : va_P G vwCl (cat [[(A 0, .inr (1, [.ref (A 1), .ref (A 2), .ref (A 3), .ref (A 4), .ref (A 5), .int (nI (D.2.2.2.2.2.1)), .int (D.2.2.2.2.2.2.1), .int (D.2.2.2.2.2.2.2.1), .int (D.2.2.2.2.2.2.2.2.1), .int (D.2.2.2.2.2.2.2.2.2)]))], rowW cyI (A 1) (A 6) (20) (rowGap D.1 20 k), rowW cyI (A 2) (A 7) (20) (rowGap D.2.1 20 k), rowW cyI (A 3) (A 8) (6) (D.2.2.1), rowW cyI (A 4) (A 9) (20) (D.2.2.2.1), rowW cyI (A 5) (A 10) (20) (D.2.2.2.2.1)]) H := hP
  have hD : va_D A9 (cat [[(A 0, .inr (1, [.ref (A 1), .ref (A 2), .ref (A 3), .ref (A 4), .ref (A 5), .int (nI (D.2.2.2.2.2.1)), .int (D.2.2.2.2.2.2.1), .int (D.2.2.2.2.2.2.2.1), .int (D.2.2.2.2.2.2.2.2.1), .int (D.2.2.2.2.2.2.2.2.2)]))], rowW cyI (A 1) (A 6) (20) (rowGap D.1 20 k), rowW cyI (A 2) (A 7) (20) (rowGap D.2.1 20 k), rowW cyI (A 3) (A 8) (6) (D.2.2.1), rowW cyI (A 4) (A 9) (20) (D.2.2.2.1), rowW cyI (A 5) (A 10) (20) (D.2.2.2.2.1)]) := hD
  refine lv_aload_n hx hb dX1_removeOne_25 rfl (lv_at hl 1 rfl) ?_
  refine lv_dup hx hb dX1_removeOne_26 rfl ?_
  refine va_get (v := .int (nI (D.2.2.2.2.2.1))) (C := RX1) (T := TX1) (N := 10) hx hb hts hinX1 hown hK hP 0 rfl rfl 5 (by decide) hf32 (fun _ h9 => h9) rfl dX1_removeOne_27 ?_
  refine lv_iconst (v := (1 : Int32)) hx hb dX1_removeOne_30 (by decide) ?_
  refine lv_isub hx hb dX1_removeOne_31 ?_
  refine top_i (x' := nI (D.2.2.2.2.2.1 - 1)) (pk_sub (a := D.2.2.2.2.2.1) (b := 1) (by omega)) ?_
  refine va_put (v := .int (nI (D.2.2.2.2.2.1 - 1))) (ty := .int) (C := RX1) (T := TX1) (N := 10) hx hb hts hinX1 tyX1 tyX1_ok nmX1 hown hK hP hD hS 0 rfl rfl 5 (by decide) hf32 (fun _ h9 => h9) rfl (by first | rfl | decide +kernel) rfl rfl (Nat.le_of_ble_eq_true rfl) dX1_removeOne_32 (fun H locs hP hD hS => ?_)
  have hP : va_P G vwCl (cat [[(A 0, .inr (1, [.ref (A 1), .ref (A 2), .ref (A 3), .ref (A 4), .ref (A 5), .int (nI (D.2.2.2.2.2.1 - 1)), .int (D.2.2.2.2.2.2.1), .int (D.2.2.2.2.2.2.2.1), .int (D.2.2.2.2.2.2.2.2.1), .int (D.2.2.2.2.2.2.2.2.2)]))], rowW cyI (A 1) (A 6) (20) (rowGap D.1 20 k), rowW cyI (A 2) (A 7) (20) (rowGap D.2.1 20 k), rowW cyI (A 3) (A 8) (6) (D.2.2.1), rowW cyI (A 4) (A 9) (20) (D.2.2.2.1), rowW cyI (A 5) (A 10) (20) (D.2.2.2.2.1)]) H := hP
  have hD : va_D A9 (cat [[(A 0, .inr (1, [.ref (A 1), .ref (A 2), .ref (A 3), .ref (A 4), .ref (A 5), .int (nI (D.2.2.2.2.2.1 - 1)), .int (D.2.2.2.2.2.2.1), .int (D.2.2.2.2.2.2.2.1), .int (D.2.2.2.2.2.2.2.2.1), .int (D.2.2.2.2.2.2.2.2.2)]))], rowW cyI (A 1) (A 6) (20) (rowGap D.1 20 k), rowW cyI (A 2) (A 7) (20) (rowGap D.2.1 20 k), rowW cyI (A 3) (A 8) (6) (D.2.2.1), rowW cyI (A 4) (A 9) (20) (D.2.2.2.1), rowW cyI (A 5) (A 10) (20) (D.2.2.2.2.1)]) := hD
  refine lv_iload_n hx hb dX1_removeOne_35 rfl (lv_at hl 0 rfl) ?_
  have hP : va_P G vwCl (cat [dyW cyI A ((rowGap D.1 20 k, rowGap D.2.1 20 k, D.2.2.1, D.2.2.2.1, D.2.2.2.2.1, D.2.2.2.2.2.1 - 1, D.2.2.2.2.2.2.1, D.2.2.2.2.2.2.2.1, D.2.2.2.2.2.2.2.2.1, D.2.2.2.2.2.2.2.2.2))]) H := hP
  have hD : va_D A9 (cat [dyW cyI A ((rowGap D.1 20 k, rowGap D.2.1 20 k, D.2.2.1, D.2.2.2.1, D.2.2.2.2.1, D.2.2.2.2.2.1 - 1, D.2.2.2.2.2.2.1, D.2.2.2.2.2.2.2.1, D.2.2.2.2.2.2.2.2.1, D.2.2.2.2.2.2.2.2.2))]) := hD
  exact end_i hx hb hr hlocks hK hP hD hS (rfl) dX1_removeOne_36
abbrev rm_X1_changePints : Room := { frames := 1, cells := 0, slots := 0, locals := 22 }
set_option maxHeartbeats 4000000 in
set_option maxRecDepth 100000 in
theorem c_X1_changePints (l : Launch) (G : va_G) (cyI cyO : ClassId) (A : Nat → Nat) (D : DS) (k : Nat) (v : Int32) (hk : k < 20) : CI l G (TY cyI cyO) yX1_changePints wsX1_changePints rm_X1_changePints [.ref (A 0), .int (nI (k)), .int (v)] [dyW cyI A D] (D.1 k) [dyW cyI A ((upd D.1 k v, D.2.1, D.2.2.1, D.2.2.2.1, D.2.2.2.2.1, D.2.2.2.2.2.1, D.2.2.2.2.2.2.1, D.2.2.2.2.2.2.2.1, D.2.2.2.2.2.2.2.2.1, D.2.2.2.2.2.2.2.2.2))] := by
  refine wk_I (cc := cX1_changePints) (maxL := 4) (ret := (some .int)) (by decide) rfl (Nat.le_of_ble_eq_true rfl) ?_
  intro p9 e9 s9 m9 b9 t9 c9 A9 ls hx hb hr hts hown hlocks hml hK hA hD hP hl hS hnm
  have hl : lv_has ls 4 [(0, .ref (A 0)), (1, .int (nI (k))), (2, .int (v))] := hl
  have hinX1 : ∀ w ∈ wsX10, w ∈ wsX1_changePints := by decide +kernel
  have hf14 := hts (.fieldLink RX1 14 "DoorstepRounds$Dairy" "pints" "LDoorstepRounds$Row;") (by decide +kernel)
  refine lv_aload_n hx hb dX1_changePints_0 rfl (lv_at hl 0 rfl) ?_
  refine va_get (v := .ref (A 1)) (C := RX1) (T := TX1) (N := 10) hx hb hts hinX1 hown hK hP 0 rfl rfl 0 (by decide) hf14 (fun _ h9 => h9) rfl dX1_changePints_1 ?_
  refine lv_iload_n hx hb dX1_changePints_4 rfl (lv_at hl 1 rfl) ?_
  have hP : va_P G vwCl (cat [[(A 0, .inr (1, [.ref (A 1), .ref (A 2), .ref (A 3), .ref (A 4), .ref (A 5), .int (nI (D.2.2.2.2.2.1)), .int (D.2.2.2.2.2.2.1), .int (D.2.2.2.2.2.2.2.1), .int (D.2.2.2.2.2.2.2.2.1), .int (D.2.2.2.2.2.2.2.2.2)]))], rowW cyI (A 1) (A 6) (20) (D.1), rowW cyI (A 2) (A 7) (20) (D.2.1), rowW cyI (A 3) (A 8) (6) (D.2.2.1), rowW cyI (A 4) (A 9) (20) (D.2.2.2.1), rowW cyI (A 5) (A 10) (20) (D.2.2.2.2.1)]) s9.heap := hP
  have hD : va_D A9 (cat [[(A 0, .inr (1, [.ref (A 1), .ref (A 2), .ref (A 3), .ref (A 4), .ref (A 5), .int (nI (D.2.2.2.2.2.1)), .int (D.2.2.2.2.2.2.1), .int (D.2.2.2.2.2.2.2.1), .int (D.2.2.2.2.2.2.2.2.1), .int (D.2.2.2.2.2.2.2.2.2)]))], rowW cyI (A 1) (A 6) (20) (D.1), rowW cyI (A 2) (A 7) (20) (D.2.1), rowW cyI (A 3) (A 8) (6) (D.2.2.1), rowW cyI (A 4) (A 9) (20) (D.2.2.2.1), rowW cyI (A 5) (A 10) (20) (D.2.2.2.2.1)]) := hD
  refine gVi (gs := [[(A 0, .inr (1, [.ref (A 1), .ref (A 2), .ref (A 3), .ref (A 4), .ref (A 5), .int (nI (D.2.2.2.2.2.1)), .int (D.2.2.2.2.2.2.1), .int (D.2.2.2.2.2.2.2.1), .int (D.2.2.2.2.2.2.2.2.1), .int (D.2.2.2.2.2.2.2.2.2)]))], rowW cyI (A 1) (A 6) (20) (D.1), rowW cyI (A 2) (A 7) (20) (D.2.1), rowW cyI (A 3) (A 8) (6) (D.2.2.1), rowW cyI (A 4) (A 9) (20) (D.2.2.2.1), rowW cyI (A 5) (A 10) (20) (D.2.2.2.2.1)]) (As := [.int (nI (k))]) (rest := []) ⟨hx, hb, hml, hown, hts⟩ (c_X3_at l G cyI cyO (A 1) (A 6) 20 D.1 (nI (k)) (by omega)) (cwV 1 hts gX1_changePints_X3_at rfl rfl rfl (by decide +kernel) ⟨Nat.le_of_ble_eq_true rfl, Nat.le_of_ble_eq_true rfl⟩) hK hP hD hS hA [1] rfl rfl rfl 0 3 rfl rfl rfl hl.1 rfl (Nat.le_of_ble_eq_true rfl) dX1_changePints_5 ⟨Nat.le_refl _, Nat.le_refl _⟩ (fun H locs hP hD hS => ?_)
  have hP : va_P G vwCl (cat [[(A 0, .inr (1, [.ref (A 1), .ref (A 2), .ref (A 3), .ref (A 4), .ref (A 5), .int (nI (D.2.2.2.2.2.1)), .int (D.2.2.2.2.2.2.1), .int (D.2.2.2.2.2.2.2.1), .int (D.2.2.2.2.2.2.2.2.1), .int (D.2.2.2.2.2.2.2.2.2)]))], rowW cyI (A 1) (A 6) (20) (D.1), rowW cyI (A 2) (A 7) (20) (D.2.1), rowW cyI (A 3) (A 8) (6) (D.2.2.1), rowW cyI (A 4) (A 9) (20) (D.2.2.2.1), rowW cyI (A 5) (A 10) (20) (D.2.2.2.2.1)]) H := hP
  have hD : va_D A9 (cat [[(A 0, .inr (1, [.ref (A 1), .ref (A 2), .ref (A 3), .ref (A 4), .ref (A 5), .int (nI (D.2.2.2.2.2.1)), .int (D.2.2.2.2.2.2.1), .int (D.2.2.2.2.2.2.2.1), .int (D.2.2.2.2.2.2.2.2.1), .int (D.2.2.2.2.2.2.2.2.2)]))], rowW cyI (A 1) (A 6) (20) (D.1), rowW cyI (A 2) (A 7) (20) (D.2.1), rowW cyI (A 3) (A 8) (6) (D.2.2.1), rowW cyI (A 4) (A 9) (20) (D.2.2.2.1), rowW cyI (A 5) (A 10) (20) (D.2.2.2.2.1)]) := hD
  refine top_i (x' := D.1 k) (rowAt_in (by omega) (by omega)) ?_
  refine lv_istore_n (lv' := [(3, .int (D.1 k)), (0, .ref (A 0)), (1, .int (nI (k))), (2, .int (v))]) hx hb dX1_changePints_8 rfl hl (by decide) rfl (fun ls hl => ?_)
  refine lv_aload_n hx hb dX1_changePints_9 rfl (lv_at hl 1 rfl) ?_
  refine va_get (v := .ref (A 1)) (C := RX1) (T := TX1) (N := 10) hx hb hts hinX1 hown hK hP 0 rfl rfl 0 (by decide) hf14 (fun _ h9 => h9) rfl dX1_changePints_10 ?_
  refine lv_iload_n hx hb dX1_changePints_13 rfl (lv_at hl 2 rfl) ?_
  refine lv_iload_n hx hb dX1_changePints_14 rfl (lv_at hl 3 rfl) ?_
  refine gVv (gs := [[(A 0, .inr (1, [.ref (A 1), .ref (A 2), .ref (A 3), .ref (A 4), .ref (A 5), .int (nI (D.2.2.2.2.2.1)), .int (D.2.2.2.2.2.2.1), .int (D.2.2.2.2.2.2.2.1), .int (D.2.2.2.2.2.2.2.2.1), .int (D.2.2.2.2.2.2.2.2.2)]))], rowW cyI (A 1) (A 6) (20) (D.1), rowW cyI (A 2) (A 7) (20) (D.2.1), rowW cyI (A 3) (A 8) (6) (D.2.2.1), rowW cyI (A 4) (A 9) (20) (D.2.2.2.1), rowW cyI (A 5) (A 10) (20) (D.2.2.2.2.1)]) (As := [.int (nI (k)), .int (v)]) (rest := []) ⟨hx, hb, hml, hown, hts⟩ (c_X3_put l G cyI cyO (A 1) (A 6) 20 D.1 (nI (k)) v (by omega)) (cwV 2 hts gX1_changePints_X3_put rfl rfl rfl (by decide +kernel) ⟨Nat.le_of_ble_eq_true rfl, Nat.le_of_ble_eq_true rfl⟩) hK hP hD hS hA [1] rfl rfl rfl 0 3 rfl rfl rfl hl.1 rfl (Nat.le_of_ble_eq_true rfl) dX1_changePints_15 ⟨Nat.le_refl _, Nat.le_refl _⟩ (fun H locs hP hD hS => ?_)
  have hP : va_P G vwCl (cat [[(A 0, .inr (1, [.ref (A 1), .ref (A 2), .ref (A 3), .ref (A 4), .ref (A 5), .int (nI (D.2.2.2.2.2.1)), .int (D.2.2.2.2.2.2.1), .int (D.2.2.2.2.2.2.2.1), .int (D.2.2.2.2.2.2.2.2.1), .int (D.2.2.2.2.2.2.2.2.2)]))], rowW cyI (A 1) (A 6) (20) (rowPut D.1 20 (nI (k)) v), rowW cyI (A 2) (A 7) (20) (D.2.1), rowW cyI (A 3) (A 8) (6) (D.2.2.1), rowW cyI (A 4) (A 9) (20) (D.2.2.2.1), rowW cyI (A 5) (A 10) (20) (D.2.2.2.2.1)]) H := hP
  have hD : va_D A9 (cat [[(A 0, .inr (1, [.ref (A 1), .ref (A 2), .ref (A 3), .ref (A 4), .ref (A 5), .int (nI (D.2.2.2.2.2.1)), .int (D.2.2.2.2.2.2.1), .int (D.2.2.2.2.2.2.2.1), .int (D.2.2.2.2.2.2.2.2.1), .int (D.2.2.2.2.2.2.2.2.2)]))], rowW cyI (A 1) (A 6) (20) (rowPut D.1 20 (nI (k)) v), rowW cyI (A 2) (A 7) (20) (D.2.1), rowW cyI (A 3) (A 8) (6) (D.2.2.1), rowW cyI (A 4) (A 9) (20) (D.2.2.2.1), rowW cyI (A 5) (A 10) (20) (D.2.2.2.2.1)]) := hD
  rw [rowPut_in (by omega) (by omega)] at hP hD
  have hP : va_P G vwCl (cat [[(A 0, .inr (1, [.ref (A 1), .ref (A 2), .ref (A 3), .ref (A 4), .ref (A 5), .int (nI (D.2.2.2.2.2.1)), .int (D.2.2.2.2.2.2.1), .int (D.2.2.2.2.2.2.2.1), .int (D.2.2.2.2.2.2.2.2.1), .int (D.2.2.2.2.2.2.2.2.2)]))], rowW cyI (A 1) (A 6) (20) (upd D.1 k v), rowW cyI (A 2) (A 7) (20) (D.2.1), rowW cyI (A 3) (A 8) (6) (D.2.2.1), rowW cyI (A 4) (A 9) (20) (D.2.2.2.1), rowW cyI (A 5) (A 10) (20) (D.2.2.2.2.1)]) H := hP
  have hD : va_D A9 (cat [[(A 0, .inr (1, [.ref (A 1), .ref (A 2), .ref (A 3), .ref (A 4), .ref (A 5), .int (nI (D.2.2.2.2.2.1)), .int (D.2.2.2.2.2.2.1), .int (D.2.2.2.2.2.2.2.1), .int (D.2.2.2.2.2.2.2.2.1), .int (D.2.2.2.2.2.2.2.2.2)]))], rowW cyI (A 1) (A 6) (20) (upd D.1 k v), rowW cyI (A 2) (A 7) (20) (D.2.1), rowW cyI (A 3) (A 8) (6) (D.2.2.1), rowW cyI (A 4) (A 9) (20) (D.2.2.2.1), rowW cyI (A 5) (A 10) (20) (D.2.2.2.2.1)]) := hD
  refine lv_iload_n hx hb dX1_changePints_18 rfl (lv_at hl 0 rfl) ?_
  have hP : va_P G vwCl (cat [dyW cyI A ((upd D.1 k v, D.2.1, D.2.2.1, D.2.2.2.1, D.2.2.2.2.1, D.2.2.2.2.2.1, D.2.2.2.2.2.2.1, D.2.2.2.2.2.2.2.1, D.2.2.2.2.2.2.2.2.1, D.2.2.2.2.2.2.2.2.2))]) H := hP
  have hD : va_D A9 (cat [dyW cyI A ((upd D.1 k v, D.2.1, D.2.2.1, D.2.2.2.1, D.2.2.2.2.1, D.2.2.2.2.2.1, D.2.2.2.2.2.2.1, D.2.2.2.2.2.2.2.1, D.2.2.2.2.2.2.2.2.1, D.2.2.2.2.2.2.2.2.2))]) := hD
  exact end_i hx hb hr hlocks hK hP hD hS (rfl) dX1_changePints_19
abbrev rm_X1_countAtWork : Room := { frames := 2, cells := 0, slots := 0, locals := 42 }
set_option maxHeartbeats 4000000 in
set_option maxRecDepth 100000 in
theorem c_X1_countAtWork (l : Launch) (G : va_G) (cyI cyO : ClassId) (A : Nat → Nat) (D : DS) : CI l G (TY cyI cyO) yX1_countAtWork wsX1_countAtWork rm_X1_countAtWork [.ref (A 0)] [dyW cyI A D] (nI (cW D.2.2.1)) [dyW cyI A D] := by
  refine wk_I (cc := cX1_countAtWork) (maxL := 3) (ret := (some .int)) (by decide) rfl (Nat.le_of_ble_eq_true rfl) ?_
  intro p9 e9 s9 m9 b9 t9 c9 A9 ls hx hb hr hts hown hlocks hml hK hA hD hP hl hS hnm
  have hl : lv_has ls 3 [(0, .ref (A 0))] := hl
  refine lv_iconst (v := (0 : Int32)) hx hb dX1_countAtWork_0 (by decide) ?_
  refine lv_istore_n (lv' := [(1, .int ((0 : Int32))), (0, .ref (A 0))]) hx hb dX1_countAtWork_1 rfl hl (by decide) rfl (fun ls hl => ?_)
  refine lv_iconst (v := (0 : Int32)) hx hb dX1_countAtWork_2 (by decide) ?_
  refine lv_istore_n (lv' := [(2, .int ((0 : Int32))), (1, .int ((0 : Int32))), (0, .ref (A 0))]) hx hb dX1_countAtWork_3 rfl hl (by decide) rfl (fun ls hl => ?_)
  refine W_loop (α := Nat × Nat) (I := fun a9 H locs ls => (a9.1 ≤ 6) ∧ (a9.2 = itr a9.1 (cwStep D.2.2.1) 0) ∧ va_P G vwCl (cat [dyW cyI A D]) H ∧ va_D A9 (cat [dyW cyI A D]) ∧ va_S A9 s9.heap H locs ∧ lv_has ls 3 [(2, .int (nI (a9.1))), (1, .int (nI (a9.2))), (0, .ref (A 0))]) (μ := fun a9 => 6 - a9.1) (st := fun a9 => []) ?_ (0, 0) _ _ _ ⟨(show 0 ≤ 6 from by omega), (show 0 = itr 0 (cwStep D.2.2.1) 0 from rfl), hP, hD, hS, lv_sub hl [0, 1, 2] rfl⟩
  intro a9 ih_4 H locs ls hI
  obtain ⟨i, x⟩ := a9
  obtain ⟨hi9, he9, hP9, hD9, hS9, hl9⟩ := hI
  have hi : i ≤ 6 := hi9
  have he : x = itr i (cwStep D.2.2.1) 0 := he9
  have hP : va_P G vwCl (cat [dyW cyI A D]) H := hP9
  have hD : va_D A9 (cat [dyW cyI A D]) := hD9
  have hS := hS9
  have hl : lv_has ls 3 [(2, .int (nI (i))), (1, .int (nI (x))), (0, .ref (A 0))] := hl9
  clear hi9 he9 hP9 hD9 hS9 hl9
  refine lv_iload_n hx hb dX1_countAtWork_4 rfl (lv_at hl 0 rfl) ?_
  refine lv_bipush (v := (6 : Int32)) hx hb dX1_countAtWork_5 (by decide) ?_
  refine lv_icmp_ge (tgt := 27) hx hb dX1_countAtWork_7 (by decide) (fun c_7 => ?_) (fun c_7 => ?_)
  · have c_7 : (6) ≤ (i) := (nI_leI (a := 6) (b := i) (by omega) (by omega)).mp c_7
    obtain rfl : 6 = i := by omega
    refine lv_iload_n hx hb dX1_countAtWork_27 rfl (lv_at hl 1 rfl) ?_
    have hP : va_P G vwCl (cat [dyW cyI A D]) H := hP
    have hD : va_D A9 (cat [dyW cyI A D]) := hD
    exact end_i hx hb hr hlocks hK hP hD hS (by rw [he]; rfl) dX1_countAtWork_28
  · have c_7 : ¬ (6) ≤ (i) := fun h9 => c_7 ((nI_leI (a := 6) (b := i) (by omega) (by omega)).mpr h9)
    refine lv_aload_n hx hb dX1_countAtWork_10 rfl (lv_at hl 2 rfl) ?_
    refine lv_iload_n hx hb dX1_countAtWork_11 rfl (lv_at hl 0 rfl) ?_
    refine gVi (gs := [dyW cyI A D]) (As := [.int (nI (i))]) (rest := []) ⟨hx, hb, hml, hown, hts⟩ (c_X1_works l G cyI cyO A D i (by omega)) (cwV 1 hts gX1_countAtWork_X1_works rfl rfl rfl (by decide +kernel) ⟨Nat.le_of_ble_eq_true rfl, Nat.le_of_ble_eq_true rfl⟩) hK hP hD hS hA [0] rfl rfl rfl 0 1 rfl rfl rfl hl.1 rfl (Nat.le_of_ble_eq_true rfl) dX1_countAtWork_12 ⟨Nat.le_refl _, Nat.le_refl _⟩ (fun H locs hP hD hS => ?_)
    have hP : va_P G vwCl (cat [dyW cyI A D]) H := hP
    have hD : va_D A9 (cat [dyW cyI A D]) := hD
    refine lv_if_eq (tgt := 21) hx hb dX1_countAtWork_15 (by decide) (fun c_15 => ?_) (fun c_15 => ?_)
    · have c_15 : (decide (D.2.2.1 i = 1)) = false := bI_z.mp c_15
      have c_15 : ¬ (D.2.2.1 i = 1) := of_decide_eq_false c_15
      refine lv_iinc (v := nI (i + 1)) (lv' := [(2, .int (nI (i + 1))), (1, .int (nI (x))), (0, .ref (A 0))]) hx hb dX1_countAtWork_21 hl (k := 0) rfl (nI_add _ _) (by decide) rfl (fun ls hl => ?_)
      refine lv_goto (tgt := 4) hx hb dX1_countAtWork_24 (by decide) ?_
      exact ih_4 (i + 1, x) (by show (6 - (i + 1)) < (6 - i); omega) _ _ _ ⟨(show (i + 1) ≤ 6 from by omega), (show x = itr (i + 1) (cwStep D.2.2.1) 0 from by show _ = cwStep _ i (itr i _ _); rw [← he]; simp [cwStep, c_7, c_15]), hP, hD, hS, lv_sub hl [0, 1, 2] rfl⟩
    · have c_15 : (decide (D.2.2.1 i = 1)) = true := bI_nz.mp c_15
      have c_15 : (D.2.2.1 i = 1) := of_decide_eq_true c_15
      refine lv_iinc (v := nI (x + 1)) (lv' := [(1, .int (nI (x + 1))), (2, .int (nI (i))), (0, .ref (A 0))]) hx hb dX1_countAtWork_18 hl (k := 1) rfl (nI_add _ _) (by decide) rfl (fun ls hl => ?_)
      refine lv_iinc (v := nI (i + 1)) (lv' := [(2, .int (nI (i + 1))), (1, .int (nI (x + 1))), (0, .ref (A 0))]) hx hb dX1_countAtWork_21 hl (k := 1) rfl (nI_add _ _) (by decide) rfl (fun ls hl => ?_)
      refine lv_goto (tgt := 4) hx hb dX1_countAtWork_24 (by decide) ?_
      exact ih_4 (i + 1, x + 1) (by show (6 - (i + 1)) < (6 - i); omega) _ _ _ ⟨(show (i + 1) ≤ 6 from by omega), (show (x + 1) = itr (i + 1) (cwStep D.2.2.1) 0 from by show _ = cwStep _ i (itr i _ _); rw [← he]; simp [cwStep, c_7, c_15]), hP, hD, hS, lv_sub hl [0, 1, 2] rfl⟩
abbrev rm_X1_mayPlan : Room := { frames := 3, cells := 0, slots := 0, locals := 64 }
set_option maxHeartbeats 4000000 in
set_option maxRecDepth 100000 in
theorem c_X1_mayPlan (l : Launch) (G : va_G) (cyI cyO : ClassId) (A : Nat → Nat) (D : DS) : CI l G (TY cyI cyO) yX1_mayPlan wsX1_mayPlan rm_X1_mayPlan [.ref (A 0)] [dyW cyI A D] (bI (!dHO D && decide (0 < cW D.2.2.1))) [dyW cyI A D] := by
  refine wk_I (cc := cX1_mayPlan) (maxL := 1) (ret := (some .boolean)) (by decide) rfl (Nat.le_of_ble_eq_true rfl) ?_
  intro p9 e9 s9 m9 b9 t9 c9 A9 ls hx hb hr hts hown hlocks hml hK hA hD hP hl hS hnm
  have hl : lv_has ls 1 [(0, .ref (A 0))] := hl
  have hw6 := cW_le D.2.2.1
  refine lv_aload_n hx hb dX1_mayPlan_0 rfl (lv_at hl 0 rfl) ?_
  refine gVi (gs := [dyW cyI A D]) (As := []) (rest := []) ⟨hx, hb, hml, hown, hts⟩ (c_X1_isHandingOver l G cyI cyO A D) (cwV 0 hts gX1_mayPlan_X1_isHandingOver rfl rfl rfl (by decide +kernel) ⟨Nat.le_of_ble_eq_true rfl, Nat.le_of_ble_eq_true rfl⟩) hK hP hD hS hA [0] rfl rfl rfl 0 1 rfl rfl rfl hl.1 rfl (Nat.le_of_ble_eq_true rfl) dX1_mayPlan_1 ⟨Nat.le_refl _, Nat.le_refl _⟩ (fun H locs hP hD hS => ?_)
  have hP : va_P G vwCl (cat [dyW cyI A D]) H := hP
  have hD : va_D A9 (cat [dyW cyI A D]) := hD
  refine lv_if_ne (tgt := 18) hx hb dX1_mayPlan_4 (by decide) (fun c_4 => ?_) (fun c_4 => ?_)
  · have c_4 : (dHO D) = true := bI_nz.mp c_4
    refine lv_iconst (v := (0 : Int32)) hx hb dX1_mayPlan_18 (by decide) ?_
    have hP : va_P G vwCl (cat [dyW cyI A D]) H := hP
    have hD : va_D A9 (cat [dyW cyI A D]) := hD
    exact end_z hx hb hr hlocks hK hP hD hS (by simp_all [bI]) (Or.inl rfl) dX1_mayPlan_19
  · have c_4 : (dHO D) = false := bI_z.mp c_4
    refine lv_aload_n hx hb dX1_mayPlan_7 rfl (lv_at hl 0 rfl) ?_
    refine gVi (gs := [dyW cyI A D]) (As := []) (rest := []) ⟨hx, hb, hml, hown, hts⟩ (c_X1_countAtWork l G cyI cyO A D) (cwV 0 hts gX1_mayPlan_X1_countAtWork rfl rfl rfl (by decide +kernel) ⟨Nat.le_of_ble_eq_true rfl, Nat.le_of_ble_eq_true rfl⟩) hK hP hD hS hA [0] rfl rfl rfl 0 1 rfl rfl rfl hl.1 rfl (Nat.le_of_ble_eq_true rfl) dX1_mayPlan_8 ⟨Nat.le_refl _, Nat.le_refl _⟩ (fun H locs hP hD hS => ?_)
    have hP : va_P G vwCl (cat [dyW cyI A D]) H := hP
    have hD : va_D A9 (cat [dyW cyI A D]) := hD
    refine lv_if_le (tgt := 18) hx hb dX1_mayPlan_11 (by decide) (fun c_11 => ?_) (fun c_11 => ?_)
    · have c_11 : (cW D.2.2.1) ≤ (0) := (nI_leI (a := cW D.2.2.1) (b := 0) (by omega) (by omega)).mp c_11
      refine lv_iconst (v := (0 : Int32)) hx hb dX1_mayPlan_18 (by decide) ?_
      have hP : va_P G vwCl (cat [dyW cyI A D]) H := hP
      have hD : va_D A9 (cat [dyW cyI A D]) := hD
      exact end_z hx hb hr hlocks hK hP hD hS (by simp_all [bI]) (Or.inl rfl) dX1_mayPlan_19
    · have c_11 : ¬ (cW D.2.2.1) ≤ (0) := fun h9 => c_11 ((nI_leI (a := cW D.2.2.1) (b := 0) (by omega) (by omega)).mpr h9)
      refine lv_iconst (v := (1 : Int32)) hx hb dX1_mayPlan_14 (by decide) ?_
      refine lv_goto (tgt := 19) hx hb dX1_mayPlan_15 (by decide) ?_
      have hP : va_P G vwCl (cat [dyW cyI A D]) H := hP
      have hD : va_D A9 (cat [dyW cyI A D]) := hD
      exact end_z hx hb hr hlocks hK hP hD hS (by simp_all [bI]) (Or.inr rfl) dX1_mayPlan_19
abbrev rm_X1_welcome : Room := { frames := 3, cells := 0, slots := 0, locals := 64 }
set_option maxHeartbeats 4000000 in
set_option maxRecDepth 100000 in
theorem c_X1_welcome (l : Launch) (G : va_G) (cyI cyO : ClassId) (A : Nat → Nat) (D : DS) (k : Nat) (hk : k < 6) : CI l G (TY cyI cyO) yX1_welcome wsX1_welcome rm_X1_welcome [.ref (A 0), .int (nI (k))] [dyW cyI A D] (nI (cW (upd D.2.2.1 k 1))) [dyW cyI A ((D.1, D.2.1, upd D.2.2.1 k 1, D.2.2.2.1, D.2.2.2.2.1, D.2.2.2.2.2.1, D.2.2.2.2.2.2.1, D.2.2.2.2.2.2.2.1, D.2.2.2.2.2.2.2.2.1, D.2.2.2.2.2.2.2.2.2))] := by
  refine wk_I (cc := cX1_welcome) (maxL := 2) (ret := (some .int)) (by decide) rfl (Nat.le_of_ble_eq_true rfl) ?_
  intro p9 e9 s9 m9 b9 t9 c9 A9 ls hx hb hr hts hown hlocks hml hK hA hD hP hl hS hnm
  have hl : lv_has ls 2 [(0, .ref (A 0)), (1, .int (nI (k)))] := hl
  have hinX1 : ∀ w ∈ wsX10, w ∈ wsX1_welcome := by decide +kernel
  have hf23 := hts (.fieldLink RX1 23 "DoorstepRounds$Dairy" "atWork" "LDoorstepRounds$Row;") (by decide +kernel)
  refine lv_aload_n hx hb dX1_welcome_0 rfl (lv_at hl 0 rfl) ?_
  refine va_get (v := .ref (A 3)) (C := RX1) (T := TX1) (N := 10) hx hb hts hinX1 hown hK hP 0 rfl rfl 2 (by decide) hf23 (fun _ h9 => h9) rfl dX1_welcome_1 ?_
  refine lv_iload_n hx hb dX1_welcome_4 rfl (lv_at hl 1 rfl) ?_
  refine lv_iconst (v := (1 : Int32)) hx hb dX1_welcome_5 (by decide) ?_
  have hP : va_P G vwCl (cat [[(A 0, .inr (1, [.ref (A 1), .ref (A 2), .ref (A 3), .ref (A 4), .ref (A 5), .int (nI (D.2.2.2.2.2.1)), .int (D.2.2.2.2.2.2.1), .int (D.2.2.2.2.2.2.2.1), .int (D.2.2.2.2.2.2.2.2.1), .int (D.2.2.2.2.2.2.2.2.2)]))], rowW cyI (A 1) (A 6) (20) (D.1), rowW cyI (A 2) (A 7) (20) (D.2.1), rowW cyI (A 3) (A 8) (6) (D.2.2.1), rowW cyI (A 4) (A 9) (20) (D.2.2.2.1), rowW cyI (A 5) (A 10) (20) (D.2.2.2.2.1)]) s9.heap := hP
  have hD : va_D A9 (cat [[(A 0, .inr (1, [.ref (A 1), .ref (A 2), .ref (A 3), .ref (A 4), .ref (A 5), .int (nI (D.2.2.2.2.2.1)), .int (D.2.2.2.2.2.2.1), .int (D.2.2.2.2.2.2.2.1), .int (D.2.2.2.2.2.2.2.2.1), .int (D.2.2.2.2.2.2.2.2.2)]))], rowW cyI (A 1) (A 6) (20) (D.1), rowW cyI (A 2) (A 7) (20) (D.2.1), rowW cyI (A 3) (A 8) (6) (D.2.2.1), rowW cyI (A 4) (A 9) (20) (D.2.2.2.1), rowW cyI (A 5) (A 10) (20) (D.2.2.2.2.1)]) := hD
  refine gVv (gs := [[(A 0, .inr (1, [.ref (A 1), .ref (A 2), .ref (A 3), .ref (A 4), .ref (A 5), .int (nI (D.2.2.2.2.2.1)), .int (D.2.2.2.2.2.2.1), .int (D.2.2.2.2.2.2.2.1), .int (D.2.2.2.2.2.2.2.2.1), .int (D.2.2.2.2.2.2.2.2.2)]))], rowW cyI (A 1) (A 6) (20) (D.1), rowW cyI (A 2) (A 7) (20) (D.2.1), rowW cyI (A 3) (A 8) (6) (D.2.2.1), rowW cyI (A 4) (A 9) (20) (D.2.2.2.1), rowW cyI (A 5) (A 10) (20) (D.2.2.2.2.1)]) (As := [.int (nI (k)), .int ((1 : Int32))]) (rest := []) ⟨hx, hb, hml, hown, hts⟩ (c_X3_put l G cyI cyO (A 3) (A 8) 6 D.2.2.1 (nI (k)) ((1 : Int32)) (by omega)) (cwV 2 hts gX1_welcome_X3_put rfl rfl rfl (by decide +kernel) ⟨Nat.le_of_ble_eq_true rfl, Nat.le_of_ble_eq_true rfl⟩) hK hP hD hS hA [3] rfl rfl rfl 0 3 rfl rfl rfl hl.1 rfl (Nat.le_of_ble_eq_true rfl) dX1_welcome_6 ⟨Nat.le_refl _, Nat.le_refl _⟩ (fun H locs hP hD hS => ?_)
  have hP : va_P G vwCl (cat [[(A 0, .inr (1, [.ref (A 1), .ref (A 2), .ref (A 3), .ref (A 4), .ref (A 5), .int (nI (D.2.2.2.2.2.1)), .int (D.2.2.2.2.2.2.1), .int (D.2.2.2.2.2.2.2.1), .int (D.2.2.2.2.2.2.2.2.1), .int (D.2.2.2.2.2.2.2.2.2)]))], rowW cyI (A 1) (A 6) (20) (D.1), rowW cyI (A 2) (A 7) (20) (D.2.1), rowW cyI (A 3) (A 8) (6) (rowPut D.2.2.1 6 (nI (k)) ((1 : Int32))), rowW cyI (A 4) (A 9) (20) (D.2.2.2.1), rowW cyI (A 5) (A 10) (20) (D.2.2.2.2.1)]) H := hP
  have hD : va_D A9 (cat [[(A 0, .inr (1, [.ref (A 1), .ref (A 2), .ref (A 3), .ref (A 4), .ref (A 5), .int (nI (D.2.2.2.2.2.1)), .int (D.2.2.2.2.2.2.1), .int (D.2.2.2.2.2.2.2.1), .int (D.2.2.2.2.2.2.2.2.1), .int (D.2.2.2.2.2.2.2.2.2)]))], rowW cyI (A 1) (A 6) (20) (D.1), rowW cyI (A 2) (A 7) (20) (D.2.1), rowW cyI (A 3) (A 8) (6) (rowPut D.2.2.1 6 (nI (k)) ((1 : Int32))), rowW cyI (A 4) (A 9) (20) (D.2.2.2.1), rowW cyI (A 5) (A 10) (20) (D.2.2.2.2.1)]) := hD
  rw [rowPut_in (by omega) (by omega)] at hP hD
  have hP : va_P G vwCl (cat [[(A 0, .inr (1, [.ref (A 1), .ref (A 2), .ref (A 3), .ref (A 4), .ref (A 5), .int (nI (D.2.2.2.2.2.1)), .int (D.2.2.2.2.2.2.1), .int (D.2.2.2.2.2.2.2.1), .int (D.2.2.2.2.2.2.2.2.1), .int (D.2.2.2.2.2.2.2.2.2)]))], rowW cyI (A 1) (A 6) (20) (D.1), rowW cyI (A 2) (A 7) (20) (D.2.1), rowW cyI (A 3) (A 8) (6) (upd D.2.2.1 k 1), rowW cyI (A 4) (A 9) (20) (D.2.2.2.1), rowW cyI (A 5) (A 10) (20) (D.2.2.2.2.1)]) H := hP
  have hD : va_D A9 (cat [[(A 0, .inr (1, [.ref (A 1), .ref (A 2), .ref (A 3), .ref (A 4), .ref (A 5), .int (nI (D.2.2.2.2.2.1)), .int (D.2.2.2.2.2.2.1), .int (D.2.2.2.2.2.2.2.1), .int (D.2.2.2.2.2.2.2.2.1), .int (D.2.2.2.2.2.2.2.2.2)]))], rowW cyI (A 1) (A 6) (20) (D.1), rowW cyI (A 2) (A 7) (20) (D.2.1), rowW cyI (A 3) (A 8) (6) (upd D.2.2.1 k 1), rowW cyI (A 4) (A 9) (20) (D.2.2.2.1), rowW cyI (A 5) (A 10) (20) (D.2.2.2.2.1)]) := hD
  refine lv_aload_n hx hb dX1_welcome_9 rfl (lv_at hl 0 rfl) ?_
  have hP : va_P G vwCl (cat [dyW cyI A ((D.1, D.2.1, upd D.2.2.1 k 1, D.2.2.2.1, D.2.2.2.2.1, D.2.2.2.2.2.1, D.2.2.2.2.2.2.1, D.2.2.2.2.2.2.2.1, D.2.2.2.2.2.2.2.2.1, D.2.2.2.2.2.2.2.2.2))]) H := hP
  have hD : va_D A9 (cat [dyW cyI A ((D.1, D.2.1, upd D.2.2.1 k 1, D.2.2.2.1, D.2.2.2.2.1, D.2.2.2.2.2.1, D.2.2.2.2.2.2.1, D.2.2.2.2.2.2.2.1, D.2.2.2.2.2.2.2.2.1, D.2.2.2.2.2.2.2.2.2))]) := hD
  refine gVi (gs := [dyW cyI A ((D.1, D.2.1, upd D.2.2.1 k 1, D.2.2.2.1, D.2.2.2.2.1, D.2.2.2.2.2.1, D.2.2.2.2.2.2.1, D.2.2.2.2.2.2.2.1, D.2.2.2.2.2.2.2.2.1, D.2.2.2.2.2.2.2.2.2))]) (As := []) (rest := []) ⟨hx, hb, hml, hown, hts⟩ (c_X1_countAtWork l G cyI cyO A ((D.1, D.2.1, upd D.2.2.1 k 1, D.2.2.2.1, D.2.2.2.2.1, D.2.2.2.2.2.1, D.2.2.2.2.2.2.1, D.2.2.2.2.2.2.2.1, D.2.2.2.2.2.2.2.2.1, D.2.2.2.2.2.2.2.2.2))) (cwV 0 hts gX1_welcome_X1_countAtWork rfl rfl rfl (by decide +kernel) ⟨Nat.le_of_ble_eq_true rfl, Nat.le_of_ble_eq_true rfl⟩) hK hP hD hS hA [0] rfl rfl rfl 0 1 rfl rfl rfl hl.1 rfl (Nat.le_of_ble_eq_true rfl) dX1_welcome_10 ⟨Nat.le_refl _, Nat.le_refl _⟩ (fun H locs hP hD hS => ?_)
  have hP : va_P G vwCl (cat [dyW cyI A ((D.1, D.2.1, upd D.2.2.1 k 1, D.2.2.2.1, D.2.2.2.2.1, D.2.2.2.2.2.1, D.2.2.2.2.2.2.1, D.2.2.2.2.2.2.2.1, D.2.2.2.2.2.2.2.2.1, D.2.2.2.2.2.2.2.2.2))]) H := hP
  have hD : va_D A9 (cat [dyW cyI A ((D.1, D.2.1, upd D.2.2.1 k 1, D.2.2.2.1, D.2.2.2.2.1, D.2.2.2.2.2.1, D.2.2.2.2.2.2.1, D.2.2.2.2.2.2.2.1, D.2.2.2.2.2.2.2.2.1, D.2.2.2.2.2.2.2.2.2))]) := hD
  have hP : va_P G vwCl (cat [dyW cyI A ((D.1, D.2.1, upd D.2.2.1 k 1, D.2.2.2.1, D.2.2.2.2.1, D.2.2.2.2.2.1, D.2.2.2.2.2.2.1, D.2.2.2.2.2.2.2.1, D.2.2.2.2.2.2.2.2.1, D.2.2.2.2.2.2.2.2.2))]) H := hP
  have hD : va_D A9 (cat [dyW cyI A ((D.1, D.2.1, upd D.2.2.1 k 1, D.2.2.2.1, D.2.2.2.2.1, D.2.2.2.2.2.1, D.2.2.2.2.2.2.1, D.2.2.2.2.2.2.2.1, D.2.2.2.2.2.2.2.2.1, D.2.2.2.2.2.2.2.2.2))]) := hD
  exact end_i hx hb hr hlocks hK hP hD hS (rfl) dX1_welcome_13
abbrev rm_X1_dismiss : Room := { frames := 1, cells := 0, slots := 0, locals := 22 }
set_option maxHeartbeats 4000000 in
set_option maxRecDepth 100000 in
theorem c_X1_dismiss (l : Launch) (G : va_G) (cyI cyO : ClassId) (A : Nat → Nat) (D : DS) (k : Nat) (hn : D.2.2.2.2.2.1 ≤ 20) (hk : k < 6) : CI l G (TY cyI cyO) yX1_dismiss wsX1_dismiss rm_X1_dismiss [.ref (A 0), .int (nI (k))] [dyW cyI A D] (nI ((dsAll D.2.1 D.2.2.2.2.2.1 (nI k)).2)) [dyW cyI A ((D.1, (dsAll D.2.1 D.2.2.2.2.2.1 (nI k)).1, upd D.2.2.1 k 0, D.2.2.2.1, D.2.2.2.2.1, D.2.2.2.2.2.1, D.2.2.2.2.2.2.1, D.2.2.2.2.2.2.2.1, D.2.2.2.2.2.2.2.2.1, D.2.2.2.2.2.2.2.2.2))] := by
  refine wk_I (cc := cX1_dismiss) (maxL := 4) (ret := (some .int)) (by decide) rfl (Nat.le_of_ble_eq_true rfl) ?_
  intro p9 e9 s9 m9 b9 t9 c9 A9 ls hx hb hr hts hown hlocks hml hK hA hD hP hl hS hnm
  have hl : lv_has ls 4 [(0, .ref (A 0)), (1, .int (nI (k)))] := hl
  have hinX1 : ∀ w ∈ wsX10, w ∈ wsX1_dismiss := by decide +kernel
  have hf20 := hts (.fieldLink RX1 20 "DoorstepRounds$Dairy" "owners" "LDoorstepRounds$Row;") (by decide +kernel)
  have hf23 := hts (.fieldLink RX1 23 "DoorstepRounds$Dairy" "atWork" "LDoorstepRounds$Row;") (by decide +kernel)
  have hf32 := hts (.fieldLink RX1 32 "DoorstepRounds$Dairy" "count" "I") (by decide +kernel)
  have hP : va_P G vwCl (cat [[(A 0, .inr (1, [.ref (A 1), .ref (A 2), .ref (A 3), .ref (A 4), .ref (A 5), .int (nI (D.2.2.2.2.2.1)), .int (D.2.2.2.2.2.2.1), .int (D.2.2.2.2.2.2.2.1), .int (D.2.2.2.2.2.2.2.2.1), .int (D.2.2.2.2.2.2.2.2.2)]))], rowW cyI (A 1) (A 6) (20) (D.1), rowW cyI (A 2) (A 7) (20) (D.2.1), rowW cyI (A 3) (A 8) (6) (D.2.2.1), rowW cyI (A 4) (A 9) (20) (D.2.2.2.1), rowW cyI (A 5) (A 10) (20) (D.2.2.2.2.1)]) s9.heap := hP
  have hD : va_D A9 (cat [[(A 0, .inr (1, [.ref (A 1), .ref (A 2), .ref (A 3), .ref (A 4), .ref (A 5), .int (nI (D.2.2.2.2.2.1)), .int (D.2.2.2.2.2.2.1), .int (D.2.2.2.2.2.2.2.1), .int (D.2.2.2.2.2.2.2.2.1), .int (D.2.2.2.2.2.2.2.2.2)]))], rowW cyI (A 1) (A 6) (20) (D.1), rowW cyI (A 2) (A 7) (20) (D.2.1), rowW cyI (A 3) (A 8) (6) (D.2.2.1), rowW cyI (A 4) (A 9) (20) (D.2.2.2.1), rowW cyI (A 5) (A 10) (20) (D.2.2.2.2.1)]) := hD
  refine lv_iconst (v := (0 : Int32)) hx hb dX1_dismiss_0 (by decide) ?_
  refine lv_istore_n (lv' := [(2, .int ((0 : Int32))), (0, .ref (A 0)), (1, .int (nI (k)))]) hx hb dX1_dismiss_1 rfl hl (by decide) rfl (fun ls hl => ?_)
  refine lv_iconst (v := (0 : Int32)) hx hb dX1_dismiss_2 (by decide) ?_
  refine lv_istore_n (lv' := [(3, .int ((0 : Int32))), (2, .int ((0 : Int32))), (0, .ref (A 0)), (1, .int (nI (k)))]) hx hb dX1_dismiss_3 rfl hl (by decide) rfl (fun ls hl => ?_)
  refine W_loop (α := Nat × (Nat → Int32) × Nat) (I := fun a9 H locs ls => (a9.1 ≤ D.2.2.2.2.2.1) ∧ ((a9.2.1, a9.2.2) = itr a9.1 (dsStep (nI k)) (D.2.1, 0)) ∧ va_P G vwCl (cat [[(A 0, .inr (1, [.ref (A 1), .ref (A 2), .ref (A 3), .ref (A 4), .ref (A 5), .int (nI (D.2.2.2.2.2.1)), .int (D.2.2.2.2.2.2.1), .int (D.2.2.2.2.2.2.2.1), .int (D.2.2.2.2.2.2.2.2.1), .int (D.2.2.2.2.2.2.2.2.2)]))], rowW cyI (A 1) (A 6) (20) (D.1), rowW cyI (A 2) (A 7) (20) (a9.2.1), rowW cyI (A 3) (A 8) (6) (D.2.2.1), rowW cyI (A 4) (A 9) (20) (D.2.2.2.1), rowW cyI (A 5) (A 10) (20) (D.2.2.2.2.1)]) H ∧ va_D A9 (cat [[(A 0, .inr (1, [.ref (A 1), .ref (A 2), .ref (A 3), .ref (A 4), .ref (A 5), .int (nI (D.2.2.2.2.2.1)), .int (D.2.2.2.2.2.2.1), .int (D.2.2.2.2.2.2.2.1), .int (D.2.2.2.2.2.2.2.2.1), .int (D.2.2.2.2.2.2.2.2.2)]))], rowW cyI (A 1) (A 6) (20) (D.1), rowW cyI (A 2) (A 7) (20) (a9.2.1), rowW cyI (A 3) (A 8) (6) (D.2.2.1), rowW cyI (A 4) (A 9) (20) (D.2.2.2.1), rowW cyI (A 5) (A 10) (20) (D.2.2.2.2.1)]) ∧ va_S A9 s9.heap H locs ∧ lv_has ls 4 [(3, .int (nI (a9.1))), (2, .int (nI (a9.2.2))), (0, .ref (A 0)), (1, .int (nI (k)))]) (μ := fun a9 => D.2.2.2.2.2.1 - a9.1) (st := fun a9 => []) ?_ (0, D.2.1, 0) _ _ _ ⟨(show 0 ≤ D.2.2.2.2.2.1 from by omega), (show (D.2.1, 0) = itr 0 (dsStep (nI k)) (D.2.1, 0) from rfl), hP, hD, hS, lv_sub hl [0, 1, 2, 3] rfl⟩
  intro a9 ih_4 H locs ls hI
  obtain ⟨i, O1, x⟩ := a9
  obtain ⟨hi9, he9, hP9, hD9, hS9, hl9⟩ := hI
  have hi : i ≤ D.2.2.2.2.2.1 := hi9
  have he : (O1, x) = itr i (dsStep (nI k)) (D.2.1, 0) := he9
  have hP : va_P G vwCl (cat [[(A 0, .inr (1, [.ref (A 1), .ref (A 2), .ref (A 3), .ref (A 4), .ref (A 5), .int (nI (D.2.2.2.2.2.1)), .int (D.2.2.2.2.2.2.1), .int (D.2.2.2.2.2.2.2.1), .int (D.2.2.2.2.2.2.2.2.1), .int (D.2.2.2.2.2.2.2.2.2)]))], rowW cyI (A 1) (A 6) (20) (D.1), rowW cyI (A 2) (A 7) (20) (O1), rowW cyI (A 3) (A 8) (6) (D.2.2.1), rowW cyI (A 4) (A 9) (20) (D.2.2.2.1), rowW cyI (A 5) (A 10) (20) (D.2.2.2.2.1)]) H := hP9
  have hD : va_D A9 (cat [[(A 0, .inr (1, [.ref (A 1), .ref (A 2), .ref (A 3), .ref (A 4), .ref (A 5), .int (nI (D.2.2.2.2.2.1)), .int (D.2.2.2.2.2.2.1), .int (D.2.2.2.2.2.2.2.1), .int (D.2.2.2.2.2.2.2.2.1), .int (D.2.2.2.2.2.2.2.2.2)]))], rowW cyI (A 1) (A 6) (20) (D.1), rowW cyI (A 2) (A 7) (20) (O1), rowW cyI (A 3) (A 8) (6) (D.2.2.1), rowW cyI (A 4) (A 9) (20) (D.2.2.2.1), rowW cyI (A 5) (A 10) (20) (D.2.2.2.2.1)]) := hD9
  have hS := hS9
  have hl : lv_has ls 4 [(3, .int (nI (i))), (2, .int (nI (x))), (0, .ref (A 0)), (1, .int (nI (k)))] := hl9
  clear hi9 he9 hP9 hD9 hS9 hl9
  refine lv_iload_n hx hb dX1_dismiss_4 rfl (lv_at hl 0 rfl) ?_
  refine lv_aload_n hx hb dX1_dismiss_5 rfl (lv_at hl 2 rfl) ?_
  refine va_get (v := .int (nI (D.2.2.2.2.2.1))) (C := RX1) (T := TX1) (N := 10) hx hb hts hinX1 hown hK hP 0 rfl rfl 5 (by decide) hf32 (fun _ h9 => h9) rfl dX1_dismiss_6 ?_
  refine lv_icmp_ge (tgt := 42) hx hb dX1_dismiss_9 (by decide) (fun c_9 => ?_) (fun c_9 => ?_)
  · have c_9 : (D.2.2.2.2.2.1) ≤ (i) := (nI_leI (a := D.2.2.2.2.2.1) (b := i) (by omega) (by omega)).mp c_9
    obtain rfl : D.2.2.2.2.2.1 = i := by omega
    have e1 : O1 = (dsAll D.2.1 D.2.2.2.2.2.1 (nI k)).1 := congrArg Prod.fst he
    have e2 : x = (dsAll D.2.1 D.2.2.2.2.2.1 (nI k)).2 := congrArg Prod.snd he
    subst e1 e2
    refine lv_aload_n hx hb dX1_dismiss_42 rfl (lv_at hl 2 rfl) ?_
    refine va_get (v := .ref (A 3)) (C := RX1) (T := TX1) (N := 10) hx hb hts hinX1 hown hK hP 0 rfl rfl 2 (by decide) hf23 (fun _ h9 => h9) rfl dX1_dismiss_43 ?_
    refine lv_iload_n hx hb dX1_dismiss_46 rfl (lv_at hl 3 rfl) ?_
    refine lv_iconst (v := (0 : Int32)) hx hb dX1_dismiss_47 (by decide) ?_
    refine gVv (gs := [[(A 0, .inr (1, [.ref (A 1), .ref (A 2), .ref (A 3), .ref (A 4), .ref (A 5), .int (nI (D.2.2.2.2.2.1)), .int (D.2.2.2.2.2.2.1), .int (D.2.2.2.2.2.2.2.1), .int (D.2.2.2.2.2.2.2.2.1), .int (D.2.2.2.2.2.2.2.2.2)]))], rowW cyI (A 1) (A 6) (20) (D.1), rowW cyI (A 2) (A 7) (20) ((dsAll D.2.1 D.2.2.2.2.2.1 (nI k)).1), rowW cyI (A 3) (A 8) (6) (D.2.2.1), rowW cyI (A 4) (A 9) (20) (D.2.2.2.1), rowW cyI (A 5) (A 10) (20) (D.2.2.2.2.1)]) (As := [.int (nI (k)), .int ((0 : Int32))]) (rest := []) ⟨hx, hb, hml, hown, hts⟩ (c_X3_put l G cyI cyO (A 3) (A 8) 6 D.2.2.1 (nI (k)) ((0 : Int32)) (by omega)) (cwV 2 hts gX1_dismiss_X3_put rfl rfl rfl (by decide +kernel) ⟨Nat.le_of_ble_eq_true rfl, Nat.le_of_ble_eq_true rfl⟩) hK hP hD hS hA [3] rfl rfl rfl 0 3 rfl rfl rfl hl.1 rfl (Nat.le_of_ble_eq_true rfl) dX1_dismiss_48 ⟨Nat.le_refl _, Nat.le_refl _⟩ (fun H locs hP hD hS => ?_)
    have hP : va_P G vwCl (cat [[(A 0, .inr (1, [.ref (A 1), .ref (A 2), .ref (A 3), .ref (A 4), .ref (A 5), .int (nI (D.2.2.2.2.2.1)), .int (D.2.2.2.2.2.2.1), .int (D.2.2.2.2.2.2.2.1), .int (D.2.2.2.2.2.2.2.2.1), .int (D.2.2.2.2.2.2.2.2.2)]))], rowW cyI (A 1) (A 6) (20) (D.1), rowW cyI (A 2) (A 7) (20) ((dsAll D.2.1 D.2.2.2.2.2.1 (nI k)).1), rowW cyI (A 3) (A 8) (6) (rowPut D.2.2.1 6 (nI (k)) ((0 : Int32))), rowW cyI (A 4) (A 9) (20) (D.2.2.2.1), rowW cyI (A 5) (A 10) (20) (D.2.2.2.2.1)]) H := hP
    have hD : va_D A9 (cat [[(A 0, .inr (1, [.ref (A 1), .ref (A 2), .ref (A 3), .ref (A 4), .ref (A 5), .int (nI (D.2.2.2.2.2.1)), .int (D.2.2.2.2.2.2.1), .int (D.2.2.2.2.2.2.2.1), .int (D.2.2.2.2.2.2.2.2.1), .int (D.2.2.2.2.2.2.2.2.2)]))], rowW cyI (A 1) (A 6) (20) (D.1), rowW cyI (A 2) (A 7) (20) ((dsAll D.2.1 D.2.2.2.2.2.1 (nI k)).1), rowW cyI (A 3) (A 8) (6) (rowPut D.2.2.1 6 (nI (k)) ((0 : Int32))), rowW cyI (A 4) (A 9) (20) (D.2.2.2.1), rowW cyI (A 5) (A 10) (20) (D.2.2.2.2.1)]) := hD
    rw [rowPut_in (by omega) (by omega)] at hP hD
    have hP : va_P G vwCl (cat [[(A 0, .inr (1, [.ref (A 1), .ref (A 2), .ref (A 3), .ref (A 4), .ref (A 5), .int (nI (D.2.2.2.2.2.1)), .int (D.2.2.2.2.2.2.1), .int (D.2.2.2.2.2.2.2.1), .int (D.2.2.2.2.2.2.2.2.1), .int (D.2.2.2.2.2.2.2.2.2)]))], rowW cyI (A 1) (A 6) (20) (D.1), rowW cyI (A 2) (A 7) (20) ((dsAll D.2.1 D.2.2.2.2.2.1 (nI k)).1), rowW cyI (A 3) (A 8) (6) (upd D.2.2.1 k 0), rowW cyI (A 4) (A 9) (20) (D.2.2.2.1), rowW cyI (A 5) (A 10) (20) (D.2.2.2.2.1)]) H := hP
    have hD : va_D A9 (cat [[(A 0, .inr (1, [.ref (A 1), .ref (A 2), .ref (A 3), .ref (A 4), .ref (A 5), .int (nI (D.2.2.2.2.2.1)), .int (D.2.2.2.2.2.2.1), .int (D.2.2.2.2.2.2.2.1), .int (D.2.2.2.2.2.2.2.2.1), .int (D.2.2.2.2.2.2.2.2.2)]))], rowW cyI (A 1) (A 6) (20) (D.1), rowW cyI (A 2) (A 7) (20) ((dsAll D.2.1 D.2.2.2.2.2.1 (nI k)).1), rowW cyI (A 3) (A 8) (6) (upd D.2.2.1 k 0), rowW cyI (A 4) (A 9) (20) (D.2.2.2.1), rowW cyI (A 5) (A 10) (20) (D.2.2.2.2.1)]) := hD
    refine lv_iload_n hx hb dX1_dismiss_51 rfl (lv_at hl 1 rfl) ?_
    have hP : va_P G vwCl (cat [dyW cyI A ((D.1, (dsAll D.2.1 D.2.2.2.2.2.1 (nI k)).1, upd D.2.2.1 k 0, D.2.2.2.1, D.2.2.2.2.1, D.2.2.2.2.2.1, D.2.2.2.2.2.2.1, D.2.2.2.2.2.2.2.1, D.2.2.2.2.2.2.2.2.1, D.2.2.2.2.2.2.2.2.2))]) H := hP
    have hD : va_D A9 (cat [dyW cyI A ((D.1, (dsAll D.2.1 D.2.2.2.2.2.1 (nI k)).1, upd D.2.2.1 k 0, D.2.2.2.1, D.2.2.2.2.1, D.2.2.2.2.2.1, D.2.2.2.2.2.2.1, D.2.2.2.2.2.2.2.1, D.2.2.2.2.2.2.2.2.1, D.2.2.2.2.2.2.2.2.2))]) := hD
    exact end_i hx hb hr hlocks hK hP hD hS (rfl) dX1_dismiss_52
  · have c_9 : ¬ (D.2.2.2.2.2.1) ≤ (i) := fun h9 => c_9 ((nI_leI (a := D.2.2.2.2.2.1) (b := i) (by omega) (by omega)).mpr h9)
    refine lv_aload_n hx hb dX1_dismiss_12 rfl (lv_at hl 2 rfl) ?_
    refine va_get (v := .ref (A 2)) (C := RX1) (T := TX1) (N := 10) hx hb hts hinX1 hown hK hP 0 rfl rfl 1 (by decide) hf20 (fun _ h9 => h9) rfl dX1_dismiss_13 ?_
    refine lv_iload_n hx hb dX1_dismiss_16 rfl (lv_at hl 0 rfl) ?_
    refine gVi (gs := [[(A 0, .inr (1, [.ref (A 1), .ref (A 2), .ref (A 3), .ref (A 4), .ref (A 5), .int (nI (D.2.2.2.2.2.1)), .int (D.2.2.2.2.2.2.1), .int (D.2.2.2.2.2.2.2.1), .int (D.2.2.2.2.2.2.2.2.1), .int (D.2.2.2.2.2.2.2.2.2)]))], rowW cyI (A 1) (A 6) (20) (D.1), rowW cyI (A 2) (A 7) (20) (O1), rowW cyI (A 3) (A 8) (6) (D.2.2.1), rowW cyI (A 4) (A 9) (20) (D.2.2.2.1), rowW cyI (A 5) (A 10) (20) (D.2.2.2.2.1)]) (As := [.int (nI (i))]) (rest := []) ⟨hx, hb, hml, hown, hts⟩ (c_X3_at l G cyI cyO (A 2) (A 7) 20 O1 (nI (i)) (by omega)) (cwV 1 hts gX1_dismiss_X3_at rfl rfl rfl (by decide +kernel) ⟨Nat.le_of_ble_eq_true rfl, Nat.le_of_ble_eq_true rfl⟩) hK hP hD hS hA [2] rfl rfl rfl 0 3 rfl rfl rfl hl.1 rfl (Nat.le_of_ble_eq_true rfl) dX1_dismiss_17 ⟨Nat.le_refl _, Nat.le_refl _⟩ (fun H locs hP hD hS => ?_)
    have hP : va_P G vwCl (cat [[(A 0, .inr (1, [.ref (A 1), .ref (A 2), .ref (A 3), .ref (A 4), .ref (A 5), .int (nI (D.2.2.2.2.2.1)), .int (D.2.2.2.2.2.2.1), .int (D.2.2.2.2.2.2.2.1), .int (D.2.2.2.2.2.2.2.2.1), .int (D.2.2.2.2.2.2.2.2.2)]))], rowW cyI (A 1) (A 6) (20) (D.1), rowW cyI (A 2) (A 7) (20) (O1), rowW cyI (A 3) (A 8) (6) (D.2.2.1), rowW cyI (A 4) (A 9) (20) (D.2.2.2.1), rowW cyI (A 5) (A 10) (20) (D.2.2.2.2.1)]) H := hP
    have hD : va_D A9 (cat [[(A 0, .inr (1, [.ref (A 1), .ref (A 2), .ref (A 3), .ref (A 4), .ref (A 5), .int (nI (D.2.2.2.2.2.1)), .int (D.2.2.2.2.2.2.1), .int (D.2.2.2.2.2.2.2.1), .int (D.2.2.2.2.2.2.2.2.1), .int (D.2.2.2.2.2.2.2.2.2)]))], rowW cyI (A 1) (A 6) (20) (D.1), rowW cyI (A 2) (A 7) (20) (O1), rowW cyI (A 3) (A 8) (6) (D.2.2.1), rowW cyI (A 4) (A 9) (20) (D.2.2.2.1), rowW cyI (A 5) (A 10) (20) (D.2.2.2.2.1)]) := hD
    refine top_i (x' := O1 i) (rowAt_in (by omega) (by omega)) ?_
    refine lv_iload_n hx hb dX1_dismiss_20 rfl (lv_at hl 3 rfl) ?_
    refine lv_icmp_ne (tgt := 36) hx hb dX1_dismiss_21 (by decide) (fun c_21 => ?_) (fun c_21 => ?_)
    · refine lv_iinc (v := nI (i + 1)) (lv' := [(3, .int (nI (i + 1))), (2, .int (nI (x))), (0, .ref (A 0)), (1, .int (nI (k)))]) hx hb dX1_dismiss_36 hl (k := 0) rfl (nI_add _ _) (by decide) rfl (fun ls hl => ?_)
      refine lv_goto (tgt := 4) hx hb dX1_dismiss_39 (by decide) ?_
      exact ih_4 (i + 1, O1, x) (by show (D.2.2.2.2.2.1 - (i + 1)) < (D.2.2.2.2.2.1 - i); omega) _ _ _ ⟨(show (i + 1) ≤ D.2.2.2.2.2.1 from by omega), (show (O1, x) = itr (i + 1) (dsStep (nI k)) (D.2.1, 0) from by show _ = dsStep _ i (itr i _ _); rw [← he]; simp [dsStep, c_9, c_21]), hP, hD, hS, lv_sub hl [0, 1, 2, 3] rfl⟩
    · refine lv_aload_n hx hb dX1_dismiss_24 rfl (lv_at hl 2 rfl) ?_
      refine va_get (v := .ref (A 2)) (C := RX1) (T := TX1) (N := 10) hx hb hts hinX1 hown hK hP 0 rfl rfl 1 (by decide) hf20 (fun _ h9 => h9) rfl dX1_dismiss_25 ?_
      refine lv_iload_n hx hb dX1_dismiss_28 rfl (lv_at hl 0 rfl) ?_
      refine lv_iconst (v := (-1 : Int32)) hx hb dX1_dismiss_29 (by decide) ?_
      refine gVv (gs := [[(A 0, .inr (1, [.ref (A 1), .ref (A 2), .ref (A 3), .ref (A 4), .ref (A 5), .int (nI (D.2.2.2.2.2.1)), .int (D.2.2.2.2.2.2.1), .int (D.2.2.2.2.2.2.2.1), .int (D.2.2.2.2.2.2.2.2.1), .int (D.2.2.2.2.2.2.2.2.2)]))], rowW cyI (A 1) (A 6) (20) (D.1), rowW cyI (A 2) (A 7) (20) (O1), rowW cyI (A 3) (A 8) (6) (D.2.2.1), rowW cyI (A 4) (A 9) (20) (D.2.2.2.1), rowW cyI (A 5) (A 10) (20) (D.2.2.2.2.1)]) (As := [.int (nI (i)), .int ((-1 : Int32))]) (rest := []) ⟨hx, hb, hml, hown, hts⟩ (c_X3_put l G cyI cyO (A 2) (A 7) 20 O1 (nI (i)) ((-1 : Int32)) (by omega)) (cwV 2 hts gX1_dismiss_X3_put rfl rfl rfl (by decide +kernel) ⟨Nat.le_of_ble_eq_true rfl, Nat.le_of_ble_eq_true rfl⟩) hK hP hD hS hA [2] rfl rfl rfl 0 3 rfl rfl rfl hl.1 rfl (Nat.le_of_ble_eq_true rfl) dX1_dismiss_30 ⟨Nat.le_refl _, Nat.le_refl _⟩ (fun H locs hP hD hS => ?_)
      have hP : va_P G vwCl (cat [[(A 0, .inr (1, [.ref (A 1), .ref (A 2), .ref (A 3), .ref (A 4), .ref (A 5), .int (nI (D.2.2.2.2.2.1)), .int (D.2.2.2.2.2.2.1), .int (D.2.2.2.2.2.2.2.1), .int (D.2.2.2.2.2.2.2.2.1), .int (D.2.2.2.2.2.2.2.2.2)]))], rowW cyI (A 1) (A 6) (20) (D.1), rowW cyI (A 2) (A 7) (20) (rowPut O1 20 (nI (i)) ((-1 : Int32))), rowW cyI (A 3) (A 8) (6) (D.2.2.1), rowW cyI (A 4) (A 9) (20) (D.2.2.2.1), rowW cyI (A 5) (A 10) (20) (D.2.2.2.2.1)]) H := hP
      have hD : va_D A9 (cat [[(A 0, .inr (1, [.ref (A 1), .ref (A 2), .ref (A 3), .ref (A 4), .ref (A 5), .int (nI (D.2.2.2.2.2.1)), .int (D.2.2.2.2.2.2.1), .int (D.2.2.2.2.2.2.2.1), .int (D.2.2.2.2.2.2.2.2.1), .int (D.2.2.2.2.2.2.2.2.2)]))], rowW cyI (A 1) (A 6) (20) (D.1), rowW cyI (A 2) (A 7) (20) (rowPut O1 20 (nI (i)) ((-1 : Int32))), rowW cyI (A 3) (A 8) (6) (D.2.2.1), rowW cyI (A 4) (A 9) (20) (D.2.2.2.1), rowW cyI (A 5) (A 10) (20) (D.2.2.2.2.1)]) := hD
      rw [rowPut_in (by omega) (by omega)] at hP hD
      have hP : va_P G vwCl (cat [[(A 0, .inr (1, [.ref (A 1), .ref (A 2), .ref (A 3), .ref (A 4), .ref (A 5), .int (nI (D.2.2.2.2.2.1)), .int (D.2.2.2.2.2.2.1), .int (D.2.2.2.2.2.2.2.1), .int (D.2.2.2.2.2.2.2.2.1), .int (D.2.2.2.2.2.2.2.2.2)]))], rowW cyI (A 1) (A 6) (20) (D.1), rowW cyI (A 2) (A 7) (20) (upd O1 i (-1)), rowW cyI (A 3) (A 8) (6) (D.2.2.1), rowW cyI (A 4) (A 9) (20) (D.2.2.2.1), rowW cyI (A 5) (A 10) (20) (D.2.2.2.2.1)]) H := hP
      have hD : va_D A9 (cat [[(A 0, .inr (1, [.ref (A 1), .ref (A 2), .ref (A 3), .ref (A 4), .ref (A 5), .int (nI (D.2.2.2.2.2.1)), .int (D.2.2.2.2.2.2.1), .int (D.2.2.2.2.2.2.2.1), .int (D.2.2.2.2.2.2.2.2.1), .int (D.2.2.2.2.2.2.2.2.2)]))], rowW cyI (A 1) (A 6) (20) (D.1), rowW cyI (A 2) (A 7) (20) (upd O1 i (-1)), rowW cyI (A 3) (A 8) (6) (D.2.2.1), rowW cyI (A 4) (A 9) (20) (D.2.2.2.1), rowW cyI (A 5) (A 10) (20) (D.2.2.2.2.1)]) := hD
      refine lv_iinc (v := nI (x + 1)) (lv' := [(2, .int (nI (x + 1))), (3, .int (nI (i))), (0, .ref (A 0)), (1, .int (nI (k)))]) hx hb dX1_dismiss_33 hl (k := 1) rfl (nI_add _ _) (by decide) rfl (fun ls hl => ?_)
      refine lv_iinc (v := nI (i + 1)) (lv' := [(3, .int (nI (i + 1))), (2, .int (nI (x + 1))), (0, .ref (A 0)), (1, .int (nI (k)))]) hx hb dX1_dismiss_36 hl (k := 1) rfl (nI_add _ _) (by decide) rfl (fun ls hl => ?_)
      refine lv_goto (tgt := 4) hx hb dX1_dismiss_39 (by decide) ?_
      exact ih_4 (i + 1, upd O1 i (-1), x + 1) (by show (D.2.2.2.2.2.1 - (i + 1)) < (D.2.2.2.2.2.1 - i); omega) _ _ _ ⟨(show (i + 1) ≤ D.2.2.2.2.2.1 from by omega), (show ((upd O1 i (-1)), (x + 1)) = itr (i + 1) (dsStep (nI k)) (D.2.1, 0) from by show _ = dsStep _ i (itr i _ _); rw [← he]; simp [dsStep, c_9, c_21]), hP, hD, hS, lv_sub hl [0, 1, 2, 3] rfl⟩
abbrev rm_X1_countDoorsteps : Room := { frames := 0, cells := 0, slots := 0, locals := 0 }
set_option maxHeartbeats 4000000 in
set_option maxRecDepth 100000 in
theorem c_X1_countDoorsteps (l : Launch) (G : va_G) (cyI cyO : ClassId) (A : Nat → Nat) (D : DS) : CI l G (TY cyI cyO) yX1_countDoorsteps wsX1_countDoorsteps rm_X1_countDoorsteps [.ref (A 0)] [dyW cyI A D] (nI (D.2.2.2.2.2.1)) [dyW cyI A D] := by
  refine wk_I (cc := cX1_countDoorsteps) (maxL := 1) (ret := (some .int)) (by decide) rfl (Nat.le_of_ble_eq_true rfl) ?_
  intro p9 e9 s9 m9 b9 t9 c9 A9 ls hx hb hr hts hown hlocks hml hK hA hD hP hl hS hnm
  have hl : lv_has ls 1 [(0, .ref (A 0))] := hl
  have hinX1 : ∀ w ∈ wsX10, w ∈ wsX1_countDoorsteps := by decide +kernel
  have hf32 := hts (.fieldLink RX1 32 "DoorstepRounds$Dairy" "count" "I") (by decide +kernel)
  refine lv_aload_n hx hb dX1_countDoorsteps_0 rfl (lv_at hl 0 rfl) ?_
  refine va_get (v := .int (nI (D.2.2.2.2.2.1))) (C := RX1) (T := TX1) (N := 10) hx hb hts hinX1 hown hK hP 0 rfl rfl 5 (by decide) hf32 (fun _ h9 => h9) rfl dX1_countDoorsteps_1 ?_
  have hP : va_P G vwCl (cat [dyW cyI A D]) s9.heap := hP
  have hD : va_D A9 (cat [dyW cyI A D]) := hD
  exact end_i hx hb hr hlocks hK hP hD hS (rfl) dX1_countDoorsteps_4
abbrev rm_X1_nextStep : Room := { frames := 0, cells := 0, slots := 0, locals := 0 }
set_option maxHeartbeats 4000000 in
set_option maxRecDepth 100000 in
theorem c_X1_nextStep (l : Launch) (G : va_G) (cyI cyO : ClassId) (A : Nat → Nat) (D : DS) : CI l G (TY cyI cyO) yX1_nextStep wsX1_nextStep rm_X1_nextStep [.ref (A 0)] [dyW cyI A D] D.2.2.2.2.2.2.1 [dyW cyI A D] := by
  refine wk_I (cc := cX1_nextStep) (maxL := 1) (ret := (some .int)) (by decide) rfl (Nat.le_of_ble_eq_true rfl) ?_
  intro p9 e9 s9 m9 b9 t9 c9 A9 ls hx hb hr hts hown hlocks hml hK hA hD hP hl hS hnm
  have hl : lv_has ls 1 [(0, .ref (A 0))] := hl
  have hinX1 : ∀ w ∈ wsX10, w ∈ wsX1_nextStep := by decide +kernel
  have hf36 := hts (.fieldLink RX1 36 "DoorstepRounds$Dairy" "step" "I") (by decide +kernel)
  refine lv_aload_n hx hb dX1_nextStep_0 rfl (lv_at hl 0 rfl) ?_
  refine va_get (v := .int (D.2.2.2.2.2.2.1)) (C := RX1) (T := TX1) (N := 10) hx hb hts hinX1 hown hK hP 0 rfl rfl 6 (by decide) hf36 (fun _ h9 => h9) rfl dX1_nextStep_1 ?_
  have hP : va_P G vwCl (cat [dyW cyI A D]) s9.heap := hP
  have hD : va_D A9 (cat [dyW cyI A D]) := hD
  exact end_i hx hb hr hlocks hK hP hD hS (rfl) dX1_nextStep_4
abbrev rm_X1_countTakenOver : Room := { frames := 0, cells := 0, slots := 0, locals := 0 }
set_option maxHeartbeats 4000000 in
set_option maxRecDepth 100000 in
theorem c_X1_countTakenOver (l : Launch) (G : va_G) (cyI cyO : ClassId) (A : Nat → Nat) (D : DS) : CI l G (TY cyI cyO) yX1_countTakenOver wsX1_countTakenOver rm_X1_countTakenOver [.ref (A 0)] [dyW cyI A D] D.2.2.2.2.2.2.2.1 [dyW cyI A D] := by
  refine wk_I (cc := cX1_countTakenOver) (maxL := 1) (ret := (some .int)) (by decide) rfl (Nat.le_of_ble_eq_true rfl) ?_
  intro p9 e9 s9 m9 b9 t9 c9 A9 ls hx hb hr hts hown hlocks hml hK hA hD hP hl hS hnm
  have hl : lv_has ls 1 [(0, .ref (A 0))] := hl
  have hinX1 : ∀ w ∈ wsX10, w ∈ wsX1_countTakenOver := by decide +kernel
  have hf39 := hts (.fieldLink RX1 39 "DoorstepRounds$Dairy" "takenOver" "I") (by decide +kernel)
  refine lv_aload_n hx hb dX1_countTakenOver_0 rfl (lv_at hl 0 rfl) ?_
  refine va_get (v := .int (D.2.2.2.2.2.2.2.1)) (C := RX1) (T := TX1) (N := 10) hx hb hts hinX1 hown hK hP 0 rfl rfl 7 (by decide) hf39 (fun _ h9 => h9) rfl dX1_countTakenOver_1 ?_
  have hP : va_P G vwCl (cat [dyW cyI A D]) s9.heap := hP
  have hD : va_D A9 (cat [dyW cyI A D]) := hD
  exact end_i hx hb hr hlocks hK hP hD hS (rfl) dX1_countTakenOver_4
abbrev rm_X1_countPintsBrought : Room := { frames := 0, cells := 0, slots := 0, locals := 0 }
set_option maxHeartbeats 4000000 in
set_option maxRecDepth 100000 in
theorem c_X1_countPintsBrought (l : Launch) (G : va_G) (cyI cyO : ClassId) (A : Nat → Nat) (D : DS) : CI l G (TY cyI cyO) yX1_countPintsBrought wsX1_countPintsBrought rm_X1_countPintsBrought [.ref (A 0)] [dyW cyI A D] D.2.2.2.2.2.2.2.2.1 [dyW cyI A D] := by
  refine wk_I (cc := cX1_countPintsBrought) (maxL := 1) (ret := (some .int)) (by decide) rfl (Nat.le_of_ble_eq_true rfl) ?_
  intro p9 e9 s9 m9 b9 t9 c9 A9 ls hx hb hr hts hown hlocks hml hK hA hD hP hl hS hnm
  have hl : lv_has ls 1 [(0, .ref (A 0))] := hl
  have hinX1 : ∀ w ∈ wsX10, w ∈ wsX1_countPintsBrought := by decide +kernel
  have hf42 := hts (.fieldLink RX1 42 "DoorstepRounds$Dairy" "pintsBrought" "I") (by decide +kernel)
  refine lv_aload_n hx hb dX1_countPintsBrought_0 rfl (lv_at hl 0 rfl) ?_
  refine va_get (v := .int (D.2.2.2.2.2.2.2.2.1)) (C := RX1) (T := TX1) (N := 10) hx hb hts hinX1 hown hK hP 0 rfl rfl 8 (by decide) hf42 (fun _ h9 => h9) rfl dX1_countPintsBrought_1 ?_
  have hP : va_P G vwCl (cat [dyW cyI A D]) s9.heap := hP
  have hD : va_D A9 (cat [dyW cyI A D]) := hD
  exact end_i hx hb hr hlocks hK hP hD hS (rfl) dX1_countPintsBrought_4
abbrev rm_X1_countMisses : Room := { frames := 0, cells := 0, slots := 0, locals := 0 }
set_option maxHeartbeats 4000000 in
set_option maxRecDepth 100000 in
theorem c_X1_countMisses (l : Launch) (G : va_G) (cyI cyO : ClassId) (A : Nat → Nat) (D : DS) : CI l G (TY cyI cyO) yX1_countMisses wsX1_countMisses rm_X1_countMisses [.ref (A 0)] [dyW cyI A D] D.2.2.2.2.2.2.2.2.2 [dyW cyI A D] := by
  refine wk_I (cc := cX1_countMisses) (maxL := 1) (ret := (some .int)) (by decide) rfl (Nat.le_of_ble_eq_true rfl) ?_
  intro p9 e9 s9 m9 b9 t9 c9 A9 ls hx hb hr hts hown hlocks hml hK hA hD hP hl hS hnm
  have hl : lv_has ls 1 [(0, .ref (A 0))] := hl
  have hinX1 : ∀ w ∈ wsX10, w ∈ wsX1_countMisses := by decide +kernel
  have hf45 := hts (.fieldLink RX1 45 "DoorstepRounds$Dairy" "missed" "I") (by decide +kernel)
  refine lv_aload_n hx hb dX1_countMisses_0 rfl (lv_at hl 0 rfl) ?_
  refine va_get (v := .int (D.2.2.2.2.2.2.2.2.2)) (C := RX1) (T := TX1) (N := 10) hx hb hts hinX1 hown hK hP 0 rfl rfl 9 (by decide) hf45 (fun _ h9 => h9) rfl dX1_countMisses_1 ?_
  have hP : va_P G vwCl (cat [dyW cyI A D]) s9.heap := hP
  have hD : va_D A9 (cat [dyW cyI A D]) := hD
  exact end_i hx hb hr hlocks hK hP hD hS (rfl) dX1_countMisses_4
abbrev rm_X1_pintsOf : Room := { frames := 1, cells := 0, slots := 0, locals := 21 }
set_option maxHeartbeats 4000000 in
set_option maxRecDepth 100000 in
theorem c_X1_pintsOf (l : Launch) (G : va_G) (cyI cyO : ClassId) (A : Nat → Nat) (D : DS) (k : Nat) (hk : k < 20) : CI l G (TY cyI cyO) yX1_pintsOf wsX1_pintsOf rm_X1_pintsOf [.ref (A 0), .int (nI (k))] [dyW cyI A D] (D.1 k) [dyW cyI A D] := by
  refine wk_I (cc := cX1_pintsOf) (maxL := 2) (ret := (some .int)) (by decide) rfl (Nat.le_of_ble_eq_true rfl) ?_
  intro p9 e9 s9 m9 b9 t9 c9 A9 ls hx hb hr hts hown hlocks hml hK hA hD hP hl hS hnm
  have hl : lv_has ls 2 [(0, .ref (A 0)), (1, .int (nI (k)))] := hl
  have hinX1 : ∀ w ∈ wsX10, w ∈ wsX1_pintsOf := by decide +kernel
  have hf14 := hts (.fieldLink RX1 14 "DoorstepRounds$Dairy" "pints" "LDoorstepRounds$Row;") (by decide +kernel)
  refine lv_aload_n hx hb dX1_pintsOf_0 rfl (lv_at hl 0 rfl) ?_
  refine va_get (v := .ref (A 1)) (C := RX1) (T := TX1) (N := 10) hx hb hts hinX1 hown hK hP 0 rfl rfl 0 (by decide) hf14 (fun _ h9 => h9) rfl dX1_pintsOf_1 ?_
  refine lv_iload_n hx hb dX1_pintsOf_4 rfl (lv_at hl 1 rfl) ?_
  have hP : va_P G vwCl (cat [[(A 0, .inr (1, [.ref (A 1), .ref (A 2), .ref (A 3), .ref (A 4), .ref (A 5), .int (nI (D.2.2.2.2.2.1)), .int (D.2.2.2.2.2.2.1), .int (D.2.2.2.2.2.2.2.1), .int (D.2.2.2.2.2.2.2.2.1), .int (D.2.2.2.2.2.2.2.2.2)]))], rowW cyI (A 1) (A 6) (20) (D.1), rowW cyI (A 2) (A 7) (20) (D.2.1), rowW cyI (A 3) (A 8) (6) (D.2.2.1), rowW cyI (A 4) (A 9) (20) (D.2.2.2.1), rowW cyI (A 5) (A 10) (20) (D.2.2.2.2.1)]) s9.heap := hP
  have hD : va_D A9 (cat [[(A 0, .inr (1, [.ref (A 1), .ref (A 2), .ref (A 3), .ref (A 4), .ref (A 5), .int (nI (D.2.2.2.2.2.1)), .int (D.2.2.2.2.2.2.1), .int (D.2.2.2.2.2.2.2.1), .int (D.2.2.2.2.2.2.2.2.1), .int (D.2.2.2.2.2.2.2.2.2)]))], rowW cyI (A 1) (A 6) (20) (D.1), rowW cyI (A 2) (A 7) (20) (D.2.1), rowW cyI (A 3) (A 8) (6) (D.2.2.1), rowW cyI (A 4) (A 9) (20) (D.2.2.2.1), rowW cyI (A 5) (A 10) (20) (D.2.2.2.2.1)]) := hD
  refine gVi (gs := [[(A 0, .inr (1, [.ref (A 1), .ref (A 2), .ref (A 3), .ref (A 4), .ref (A 5), .int (nI (D.2.2.2.2.2.1)), .int (D.2.2.2.2.2.2.1), .int (D.2.2.2.2.2.2.2.1), .int (D.2.2.2.2.2.2.2.2.1), .int (D.2.2.2.2.2.2.2.2.2)]))], rowW cyI (A 1) (A 6) (20) (D.1), rowW cyI (A 2) (A 7) (20) (D.2.1), rowW cyI (A 3) (A 8) (6) (D.2.2.1), rowW cyI (A 4) (A 9) (20) (D.2.2.2.1), rowW cyI (A 5) (A 10) (20) (D.2.2.2.2.1)]) (As := [.int (nI (k))]) (rest := []) ⟨hx, hb, hml, hown, hts⟩ (c_X3_at l G cyI cyO (A 1) (A 6) 20 D.1 (nI (k)) (by omega)) (cwV 1 hts gX1_pintsOf_X3_at rfl rfl rfl (by decide +kernel) ⟨Nat.le_of_ble_eq_true rfl, Nat.le_of_ble_eq_true rfl⟩) hK hP hD hS hA [1] rfl rfl rfl 0 3 rfl rfl rfl hl.1 rfl (Nat.le_of_ble_eq_true rfl) dX1_pintsOf_5 ⟨Nat.le_refl _, Nat.le_refl _⟩ (fun H locs hP hD hS => ?_)
  have hP : va_P G vwCl (cat [[(A 0, .inr (1, [.ref (A 1), .ref (A 2), .ref (A 3), .ref (A 4), .ref (A 5), .int (nI (D.2.2.2.2.2.1)), .int (D.2.2.2.2.2.2.1), .int (D.2.2.2.2.2.2.2.1), .int (D.2.2.2.2.2.2.2.2.1), .int (D.2.2.2.2.2.2.2.2.2)]))], rowW cyI (A 1) (A 6) (20) (D.1), rowW cyI (A 2) (A 7) (20) (D.2.1), rowW cyI (A 3) (A 8) (6) (D.2.2.1), rowW cyI (A 4) (A 9) (20) (D.2.2.2.1), rowW cyI (A 5) (A 10) (20) (D.2.2.2.2.1)]) H := hP
  have hD : va_D A9 (cat [[(A 0, .inr (1, [.ref (A 1), .ref (A 2), .ref (A 3), .ref (A 4), .ref (A 5), .int (nI (D.2.2.2.2.2.1)), .int (D.2.2.2.2.2.2.1), .int (D.2.2.2.2.2.2.2.1), .int (D.2.2.2.2.2.2.2.2.1), .int (D.2.2.2.2.2.2.2.2.2)]))], rowW cyI (A 1) (A 6) (20) (D.1), rowW cyI (A 2) (A 7) (20) (D.2.1), rowW cyI (A 3) (A 8) (6) (D.2.2.1), rowW cyI (A 4) (A 9) (20) (D.2.2.2.1), rowW cyI (A 5) (A 10) (20) (D.2.2.2.2.1)]) := hD
  refine top_i (x' := D.1 k) (rowAt_in (by omega) (by omega)) ?_
  have hP : va_P G vwCl (cat [dyW cyI A D]) H := hP
  have hD : va_D A9 (cat [dyW cyI A D]) := hD
  exact end_i hx hb hr hlocks hK hP hD hS (rfl) dX1_pintsOf_8
abbrev rm_X1_ownerOf : Room := { frames := 1, cells := 0, slots := 0, locals := 21 }
set_option maxHeartbeats 4000000 in
set_option maxRecDepth 100000 in
theorem c_X1_ownerOf (l : Launch) (G : va_G) (cyI cyO : ClassId) (A : Nat → Nat) (D : DS) (k : Nat) (hk : k < 20) : CI l G (TY cyI cyO) yX1_ownerOf wsX1_ownerOf rm_X1_ownerOf [.ref (A 0), .int (nI (k))] [dyW cyI A D] (D.2.1 k) [dyW cyI A D] := by
  refine wk_I (cc := cX1_ownerOf) (maxL := 2) (ret := (some .int)) (by decide) rfl (Nat.le_of_ble_eq_true rfl) ?_
  intro p9 e9 s9 m9 b9 t9 c9 A9 ls hx hb hr hts hown hlocks hml hK hA hD hP hl hS hnm
  have hl : lv_has ls 2 [(0, .ref (A 0)), (1, .int (nI (k)))] := hl
  have hinX1 : ∀ w ∈ wsX10, w ∈ wsX1_ownerOf := by decide +kernel
  have hf20 := hts (.fieldLink RX1 20 "DoorstepRounds$Dairy" "owners" "LDoorstepRounds$Row;") (by decide +kernel)
  refine lv_aload_n hx hb dX1_ownerOf_0 rfl (lv_at hl 0 rfl) ?_
  refine va_get (v := .ref (A 2)) (C := RX1) (T := TX1) (N := 10) hx hb hts hinX1 hown hK hP 0 rfl rfl 1 (by decide) hf20 (fun _ h9 => h9) rfl dX1_ownerOf_1 ?_
  refine lv_iload_n hx hb dX1_ownerOf_4 rfl (lv_at hl 1 rfl) ?_
  have hP : va_P G vwCl (cat [[(A 0, .inr (1, [.ref (A 1), .ref (A 2), .ref (A 3), .ref (A 4), .ref (A 5), .int (nI (D.2.2.2.2.2.1)), .int (D.2.2.2.2.2.2.1), .int (D.2.2.2.2.2.2.2.1), .int (D.2.2.2.2.2.2.2.2.1), .int (D.2.2.2.2.2.2.2.2.2)]))], rowW cyI (A 1) (A 6) (20) (D.1), rowW cyI (A 2) (A 7) (20) (D.2.1), rowW cyI (A 3) (A 8) (6) (D.2.2.1), rowW cyI (A 4) (A 9) (20) (D.2.2.2.1), rowW cyI (A 5) (A 10) (20) (D.2.2.2.2.1)]) s9.heap := hP
  have hD : va_D A9 (cat [[(A 0, .inr (1, [.ref (A 1), .ref (A 2), .ref (A 3), .ref (A 4), .ref (A 5), .int (nI (D.2.2.2.2.2.1)), .int (D.2.2.2.2.2.2.1), .int (D.2.2.2.2.2.2.2.1), .int (D.2.2.2.2.2.2.2.2.1), .int (D.2.2.2.2.2.2.2.2.2)]))], rowW cyI (A 1) (A 6) (20) (D.1), rowW cyI (A 2) (A 7) (20) (D.2.1), rowW cyI (A 3) (A 8) (6) (D.2.2.1), rowW cyI (A 4) (A 9) (20) (D.2.2.2.1), rowW cyI (A 5) (A 10) (20) (D.2.2.2.2.1)]) := hD
  refine gVi (gs := [[(A 0, .inr (1, [.ref (A 1), .ref (A 2), .ref (A 3), .ref (A 4), .ref (A 5), .int (nI (D.2.2.2.2.2.1)), .int (D.2.2.2.2.2.2.1), .int (D.2.2.2.2.2.2.2.1), .int (D.2.2.2.2.2.2.2.2.1), .int (D.2.2.2.2.2.2.2.2.2)]))], rowW cyI (A 1) (A 6) (20) (D.1), rowW cyI (A 2) (A 7) (20) (D.2.1), rowW cyI (A 3) (A 8) (6) (D.2.2.1), rowW cyI (A 4) (A 9) (20) (D.2.2.2.1), rowW cyI (A 5) (A 10) (20) (D.2.2.2.2.1)]) (As := [.int (nI (k))]) (rest := []) ⟨hx, hb, hml, hown, hts⟩ (c_X3_at l G cyI cyO (A 2) (A 7) 20 D.2.1 (nI (k)) (by omega)) (cwV 1 hts gX1_ownerOf_X3_at rfl rfl rfl (by decide +kernel) ⟨Nat.le_of_ble_eq_true rfl, Nat.le_of_ble_eq_true rfl⟩) hK hP hD hS hA [2] rfl rfl rfl 0 3 rfl rfl rfl hl.1 rfl (Nat.le_of_ble_eq_true rfl) dX1_ownerOf_5 ⟨Nat.le_refl _, Nat.le_refl _⟩ (fun H locs hP hD hS => ?_)
  have hP : va_P G vwCl (cat [[(A 0, .inr (1, [.ref (A 1), .ref (A 2), .ref (A 3), .ref (A 4), .ref (A 5), .int (nI (D.2.2.2.2.2.1)), .int (D.2.2.2.2.2.2.1), .int (D.2.2.2.2.2.2.2.1), .int (D.2.2.2.2.2.2.2.2.1), .int (D.2.2.2.2.2.2.2.2.2)]))], rowW cyI (A 1) (A 6) (20) (D.1), rowW cyI (A 2) (A 7) (20) (D.2.1), rowW cyI (A 3) (A 8) (6) (D.2.2.1), rowW cyI (A 4) (A 9) (20) (D.2.2.2.1), rowW cyI (A 5) (A 10) (20) (D.2.2.2.2.1)]) H := hP
  have hD : va_D A9 (cat [[(A 0, .inr (1, [.ref (A 1), .ref (A 2), .ref (A 3), .ref (A 4), .ref (A 5), .int (nI (D.2.2.2.2.2.1)), .int (D.2.2.2.2.2.2.1), .int (D.2.2.2.2.2.2.2.1), .int (D.2.2.2.2.2.2.2.2.1), .int (D.2.2.2.2.2.2.2.2.2)]))], rowW cyI (A 1) (A 6) (20) (D.1), rowW cyI (A 2) (A 7) (20) (D.2.1), rowW cyI (A 3) (A 8) (6) (D.2.2.1), rowW cyI (A 4) (A 9) (20) (D.2.2.2.1), rowW cyI (A 5) (A 10) (20) (D.2.2.2.2.1)]) := hD
  refine top_i (x' := D.2.1 k) (rowAt_in (by omega) (by omega)) ?_
  have hP : va_P G vwCl (cat [dyW cyI A D]) H := hP
  have hD : va_D A9 (cat [dyW cyI A D]) := hD
  exact end_i hx hb hr hlocks hK hP hD hS (rfl) dX1_ownerOf_8
abbrev rm_X1_roundSize : Room := { frames := 1, cells := 0, slots := 0, locals := 21 }
set_option maxHeartbeats 4000000 in
set_option maxRecDepth 100000 in
theorem c_X1_roundSize (l : Launch) (G : va_G) (cyI cyO : ClassId) (A : Nat → Nat) (D : DS) (y : Int32) (hn : D.2.2.2.2.2.1 ≤ 20) : CI l G (TY cyI cyO) yX1_roundSize wsX1_roundSize rm_X1_roundSize [.ref (A 0), .int (y)] [dyW cyI A D] (nI (rSz D.2.1 D.2.2.2.2.2.1 y)) [dyW cyI A D] := by
  refine wk_I (cc := cX1_roundSize) (maxL := 4) (ret := (some .int)) (by decide) rfl (Nat.le_of_ble_eq_true rfl) ?_
  intro p9 e9 s9 m9 b9 t9 c9 A9 ls hx hb hr hts hown hlocks hml hK hA hD hP hl hS hnm
  have hl : lv_has ls 4 [(0, .ref (A 0)), (1, .int (y))] := hl
  have hinX1 : ∀ w ∈ wsX10, w ∈ wsX1_roundSize := by decide +kernel
  have hf20 := hts (.fieldLink RX1 20 "DoorstepRounds$Dairy" "owners" "LDoorstepRounds$Row;") (by decide +kernel)
  have hf32 := hts (.fieldLink RX1 32 "DoorstepRounds$Dairy" "count" "I") (by decide +kernel)
  refine lv_iconst (v := (0 : Int32)) hx hb dX1_roundSize_0 (by decide) ?_
  refine lv_istore_n (lv' := [(2, .int ((0 : Int32))), (0, .ref (A 0)), (1, .int (y))]) hx hb dX1_roundSize_1 rfl hl (by decide) rfl (fun ls hl => ?_)
  refine lv_iconst (v := (0 : Int32)) hx hb dX1_roundSize_2 (by decide) ?_
  refine lv_istore_n (lv' := [(3, .int ((0 : Int32))), (2, .int ((0 : Int32))), (0, .ref (A 0)), (1, .int (y))]) hx hb dX1_roundSize_3 rfl hl (by decide) rfl (fun ls hl => ?_)
  refine W_loop (α := Nat × Nat) (I := fun a9 H locs ls => (a9.1 ≤ D.2.2.2.2.2.1) ∧ (a9.2 = itr a9.1 (szStep D.2.1 y) 0) ∧ va_P G vwCl (cat [dyW cyI A D]) H ∧ va_D A9 (cat [dyW cyI A D]) ∧ va_S A9 s9.heap H locs ∧ lv_has ls 4 [(3, .int (nI (a9.1))), (2, .int (nI (a9.2))), (0, .ref (A 0)), (1, .int (y))]) (μ := fun a9 => D.2.2.2.2.2.1 - a9.1) (st := fun a9 => []) ?_ (0, 0) _ _ _ ⟨(show 0 ≤ D.2.2.2.2.2.1 from by omega), (show 0 = itr 0 (szStep D.2.1 y) 0 from rfl), hP, hD, hS, lv_sub hl [0, 1, 2, 3] rfl⟩
  intro a9 ih_4 H locs ls hI
  obtain ⟨i, x⟩ := a9
  obtain ⟨hi9, he9, hP9, hD9, hS9, hl9⟩ := hI
  have hi : i ≤ D.2.2.2.2.2.1 := hi9
  have he : x = itr i (szStep D.2.1 y) 0 := he9
  have hP : va_P G vwCl (cat [dyW cyI A D]) H := hP9
  have hD : va_D A9 (cat [dyW cyI A D]) := hD9
  have hS := hS9
  have hl : lv_has ls 4 [(3, .int (nI (i))), (2, .int (nI (x))), (0, .ref (A 0)), (1, .int (y))] := hl9
  clear hi9 he9 hP9 hD9 hS9 hl9
  refine lv_iload_n hx hb dX1_roundSize_4 rfl (lv_at hl 0 rfl) ?_
  refine lv_aload_n hx hb dX1_roundSize_5 rfl (lv_at hl 2 rfl) ?_
  refine va_get (v := .int (nI (D.2.2.2.2.2.1))) (C := RX1) (T := TX1) (N := 10) hx hb hts hinX1 hown hK hP 0 rfl rfl 5 (by decide) hf32 (fun _ h9 => h9) rfl dX1_roundSize_6 ?_
  refine lv_icmp_ge (tgt := 33) hx hb dX1_roundSize_9 (by decide) (fun c_9 => ?_) (fun c_9 => ?_)
  · have c_9 : (D.2.2.2.2.2.1) ≤ (i) := (nI_leI (a := D.2.2.2.2.2.1) (b := i) (by omega) (by omega)).mp c_9
    obtain rfl : D.2.2.2.2.2.1 = i := by omega
    refine lv_iload_n hx hb dX1_roundSize_33 rfl (lv_at hl 1 rfl) ?_
    have hP : va_P G vwCl (cat [dyW cyI A D]) H := hP
    have hD : va_D A9 (cat [dyW cyI A D]) := hD
    exact end_i hx hb hr hlocks hK hP hD hS (by rw [he]; rfl) dX1_roundSize_34
  · have c_9 : ¬ (D.2.2.2.2.2.1) ≤ (i) := fun h9 => c_9 ((nI_leI (a := D.2.2.2.2.2.1) (b := i) (by omega) (by omega)).mpr h9)
    refine lv_aload_n hx hb dX1_roundSize_12 rfl (lv_at hl 2 rfl) ?_
    refine va_get (v := .ref (A 2)) (C := RX1) (T := TX1) (N := 10) hx hb hts hinX1 hown hK hP 0 rfl rfl 1 (by decide) hf20 (fun _ h9 => h9) rfl dX1_roundSize_13 ?_
    refine lv_iload_n hx hb dX1_roundSize_16 rfl (lv_at hl 0 rfl) ?_
    have hP : va_P G vwCl (cat [[(A 0, .inr (1, [.ref (A 1), .ref (A 2), .ref (A 3), .ref (A 4), .ref (A 5), .int (nI (D.2.2.2.2.2.1)), .int (D.2.2.2.2.2.2.1), .int (D.2.2.2.2.2.2.2.1), .int (D.2.2.2.2.2.2.2.2.1), .int (D.2.2.2.2.2.2.2.2.2)]))], rowW cyI (A 1) (A 6) (20) (D.1), rowW cyI (A 2) (A 7) (20) (D.2.1), rowW cyI (A 3) (A 8) (6) (D.2.2.1), rowW cyI (A 4) (A 9) (20) (D.2.2.2.1), rowW cyI (A 5) (A 10) (20) (D.2.2.2.2.1)]) H := hP
    have hD : va_D A9 (cat [[(A 0, .inr (1, [.ref (A 1), .ref (A 2), .ref (A 3), .ref (A 4), .ref (A 5), .int (nI (D.2.2.2.2.2.1)), .int (D.2.2.2.2.2.2.1), .int (D.2.2.2.2.2.2.2.1), .int (D.2.2.2.2.2.2.2.2.1), .int (D.2.2.2.2.2.2.2.2.2)]))], rowW cyI (A 1) (A 6) (20) (D.1), rowW cyI (A 2) (A 7) (20) (D.2.1), rowW cyI (A 3) (A 8) (6) (D.2.2.1), rowW cyI (A 4) (A 9) (20) (D.2.2.2.1), rowW cyI (A 5) (A 10) (20) (D.2.2.2.2.1)]) := hD
    refine gVi (gs := [[(A 0, .inr (1, [.ref (A 1), .ref (A 2), .ref (A 3), .ref (A 4), .ref (A 5), .int (nI (D.2.2.2.2.2.1)), .int (D.2.2.2.2.2.2.1), .int (D.2.2.2.2.2.2.2.1), .int (D.2.2.2.2.2.2.2.2.1), .int (D.2.2.2.2.2.2.2.2.2)]))], rowW cyI (A 1) (A 6) (20) (D.1), rowW cyI (A 2) (A 7) (20) (D.2.1), rowW cyI (A 3) (A 8) (6) (D.2.2.1), rowW cyI (A 4) (A 9) (20) (D.2.2.2.1), rowW cyI (A 5) (A 10) (20) (D.2.2.2.2.1)]) (As := [.int (nI (i))]) (rest := []) ⟨hx, hb, hml, hown, hts⟩ (c_X3_at l G cyI cyO (A 2) (A 7) 20 D.2.1 (nI (i)) (by omega)) (cwV 1 hts gX1_roundSize_X3_at rfl rfl rfl (by decide +kernel) ⟨Nat.le_of_ble_eq_true rfl, Nat.le_of_ble_eq_true rfl⟩) hK hP hD hS hA [2] rfl rfl rfl 0 3 rfl rfl rfl hl.1 rfl (Nat.le_of_ble_eq_true rfl) dX1_roundSize_17 ⟨Nat.le_refl _, Nat.le_refl _⟩ (fun H locs hP hD hS => ?_)
    have hP : va_P G vwCl (cat [[(A 0, .inr (1, [.ref (A 1), .ref (A 2), .ref (A 3), .ref (A 4), .ref (A 5), .int (nI (D.2.2.2.2.2.1)), .int (D.2.2.2.2.2.2.1), .int (D.2.2.2.2.2.2.2.1), .int (D.2.2.2.2.2.2.2.2.1), .int (D.2.2.2.2.2.2.2.2.2)]))], rowW cyI (A 1) (A 6) (20) (D.1), rowW cyI (A 2) (A 7) (20) (D.2.1), rowW cyI (A 3) (A 8) (6) (D.2.2.1), rowW cyI (A 4) (A 9) (20) (D.2.2.2.1), rowW cyI (A 5) (A 10) (20) (D.2.2.2.2.1)]) H := hP
    have hD : va_D A9 (cat [[(A 0, .inr (1, [.ref (A 1), .ref (A 2), .ref (A 3), .ref (A 4), .ref (A 5), .int (nI (D.2.2.2.2.2.1)), .int (D.2.2.2.2.2.2.1), .int (D.2.2.2.2.2.2.2.1), .int (D.2.2.2.2.2.2.2.2.1), .int (D.2.2.2.2.2.2.2.2.2)]))], rowW cyI (A 1) (A 6) (20) (D.1), rowW cyI (A 2) (A 7) (20) (D.2.1), rowW cyI (A 3) (A 8) (6) (D.2.2.1), rowW cyI (A 4) (A 9) (20) (D.2.2.2.1), rowW cyI (A 5) (A 10) (20) (D.2.2.2.2.1)]) := hD
    refine top_i (x' := D.2.1 i) (rowAt_in (by omega) (by omega)) ?_
    refine lv_iload_n hx hb dX1_roundSize_20 rfl (lv_at hl 3 rfl) ?_
    refine lv_icmp_ne (tgt := 27) hx hb dX1_roundSize_21 (by decide) (fun c_21 => ?_) (fun c_21 => ?_)
    · refine lv_iinc (v := nI (i + 1)) (lv' := [(3, .int (nI (i + 1))), (2, .int (nI (x))), (0, .ref (A 0)), (1, .int (y))]) hx hb dX1_roundSize_27 hl (k := 0) rfl (nI_add _ _) (by decide) rfl (fun ls hl => ?_)
      refine lv_goto (tgt := 4) hx hb dX1_roundSize_30 (by decide) ?_
      exact ih_4 (i + 1, x) (by show (D.2.2.2.2.2.1 - (i + 1)) < (D.2.2.2.2.2.1 - i); omega) _ _ _ ⟨(show (i + 1) ≤ D.2.2.2.2.2.1 from by omega), (show x = itr (i + 1) (szStep D.2.1 y) 0 from by show _ = szStep _ _ i (itr i _ _); rw [← he]; simp [szStep, c_9, c_21]), hP, hD, hS, lv_sub hl [0, 1, 2, 3] rfl⟩
    · refine lv_iinc (v := nI (x + 1)) (lv' := [(2, .int (nI (x + 1))), (3, .int (nI (i))), (0, .ref (A 0)), (1, .int (y))]) hx hb dX1_roundSize_24 hl (k := 1) rfl (nI_add _ _) (by decide) rfl (fun ls hl => ?_)
      refine lv_iinc (v := nI (i + 1)) (lv' := [(3, .int (nI (i + 1))), (2, .int (nI (x + 1))), (0, .ref (A 0)), (1, .int (y))]) hx hb dX1_roundSize_27 hl (k := 1) rfl (nI_add _ _) (by decide) rfl (fun ls hl => ?_)
      refine lv_goto (tgt := 4) hx hb dX1_roundSize_30 (by decide) ?_
      exact ih_4 (i + 1, x + 1) (by show (D.2.2.2.2.2.1 - (i + 1)) < (D.2.2.2.2.2.1 - i); omega) _ _ _ ⟨(show (i + 1) ≤ D.2.2.2.2.2.1 from by omega), (show (x + 1) = itr (i + 1) (szStep D.2.1 y) 0 from by show _ = szStep _ _ i (itr i _ _); rw [← he]; simp [szStep, c_9, c_21]), hP, hD, hS, lv_sub hl [0, 1, 2, 3] rfl⟩
abbrev rm_X1_roundLoad : Room := { frames := 1, cells := 0, slots := 0, locals := 21 }
set_option maxHeartbeats 4000000 in
set_option maxRecDepth 100000 in
theorem c_X1_roundLoad (l : Launch) (G : va_G) (cyI cyO : ClassId) (A : Nat → Nat) (D : DS) (y : Int32) (hn : D.2.2.2.2.2.1 ≤ 20) : CI l G (TY cyI cyO) yX1_roundLoad wsX1_roundLoad rm_X1_roundLoad [.ref (A 0), .int (y)] [dyW cyI A D] (rLd D.1 D.2.1 D.2.2.2.2.2.1 y) [dyW cyI A D] := by
  refine wk_I (cc := cX1_roundLoad) (maxL := 4) (ret := (some .int)) (by decide) rfl (Nat.le_of_ble_eq_true rfl) ?_
  intro p9 e9 s9 m9 b9 t9 c9 A9 ls hx hb hr hts hown hlocks hml hK hA hD hP hl hS hnm
  have hl : lv_has ls 4 [(0, .ref (A 0)), (1, .int (y))] := hl
  have hinX1 : ∀ w ∈ wsX10, w ∈ wsX1_roundLoad := by decide +kernel
  have hf14 := hts (.fieldLink RX1 14 "DoorstepRounds$Dairy" "pints" "LDoorstepRounds$Row;") (by decide +kernel)
  have hf20 := hts (.fieldLink RX1 20 "DoorstepRounds$Dairy" "owners" "LDoorstepRounds$Row;") (by decide +kernel)
  have hf32 := hts (.fieldLink RX1 32 "DoorstepRounds$Dairy" "count" "I") (by decide +kernel)
  refine lv_iconst (v := (0 : Int32)) hx hb dX1_roundLoad_0 (by decide) ?_
  refine lv_istore_n (lv' := [(2, .int ((0 : Int32))), (0, .ref (A 0)), (1, .int (y))]) hx hb dX1_roundLoad_1 rfl hl (by decide) rfl (fun ls hl => ?_)
  refine lv_iconst (v := (0 : Int32)) hx hb dX1_roundLoad_2 (by decide) ?_
  refine lv_istore_n (lv' := [(3, .int ((0 : Int32))), (2, .int ((0 : Int32))), (0, .ref (A 0)), (1, .int (y))]) hx hb dX1_roundLoad_3 rfl hl (by decide) rfl (fun ls hl => ?_)
  refine W_loop (α := Nat × Int32) (I := fun a9 H locs ls => (a9.1 ≤ D.2.2.2.2.2.1) ∧ (a9.2 = itr a9.1 (ldStep D.1 D.2.1 y) 0) ∧ va_P G vwCl (cat [dyW cyI A D]) H ∧ va_D A9 (cat [dyW cyI A D]) ∧ va_S A9 s9.heap H locs ∧ lv_has ls 4 [(3, .int (nI (a9.1))), (2, .int (a9.2)), (0, .ref (A 0)), (1, .int (y))]) (μ := fun a9 => D.2.2.2.2.2.1 - a9.1) (st := fun a9 => []) ?_ (0, 0) _ _ _ ⟨(show 0 ≤ D.2.2.2.2.2.1 from by omega), (show 0 = itr 0 (ldStep D.1 D.2.1 y) 0 from rfl), hP, hD, hS, lv_sub hl [0, 1, 2, 3] rfl⟩
  intro a9 ih_4 H locs ls hI
  obtain ⟨i, x⟩ := a9
  obtain ⟨hi9, he9, hP9, hD9, hS9, hl9⟩ := hI
  have hi : i ≤ D.2.2.2.2.2.1 := hi9
  have he : x = itr i (ldStep D.1 D.2.1 y) 0 := he9
  have hP : va_P G vwCl (cat [dyW cyI A D]) H := hP9
  have hD : va_D A9 (cat [dyW cyI A D]) := hD9
  have hS := hS9
  have hl : lv_has ls 4 [(3, .int (nI (i))), (2, .int (x)), (0, .ref (A 0)), (1, .int (y))] := hl9
  clear hi9 he9 hP9 hD9 hS9 hl9
  refine lv_iload_n hx hb dX1_roundLoad_4 rfl (lv_at hl 0 rfl) ?_
  refine lv_aload_n hx hb dX1_roundLoad_5 rfl (lv_at hl 2 rfl) ?_
  refine va_get (v := .int (nI (D.2.2.2.2.2.1))) (C := RX1) (T := TX1) (N := 10) hx hb hts hinX1 hown hK hP 0 rfl rfl 5 (by decide) hf32 (fun _ h9 => h9) rfl dX1_roundLoad_6 ?_
  refine lv_icmp_ge (tgt := 41) hx hb dX1_roundLoad_9 (by decide) (fun c_9 => ?_) (fun c_9 => ?_)
  · have c_9 : (D.2.2.2.2.2.1) ≤ (i) := (nI_leI (a := D.2.2.2.2.2.1) (b := i) (by omega) (by omega)).mp c_9
    obtain rfl : D.2.2.2.2.2.1 = i := by omega
    refine lv_iload_n hx hb dX1_roundLoad_41 rfl (lv_at hl 1 rfl) ?_
    have hP : va_P G vwCl (cat [dyW cyI A D]) H := hP
    have hD : va_D A9 (cat [dyW cyI A D]) := hD
    exact end_i hx hb hr hlocks hK hP hD hS (by rw [he]; rfl) dX1_roundLoad_42
  · have c_9 : ¬ (D.2.2.2.2.2.1) ≤ (i) := fun h9 => c_9 ((nI_leI (a := D.2.2.2.2.2.1) (b := i) (by omega) (by omega)).mpr h9)
    refine lv_aload_n hx hb dX1_roundLoad_12 rfl (lv_at hl 2 rfl) ?_
    refine va_get (v := .ref (A 2)) (C := RX1) (T := TX1) (N := 10) hx hb hts hinX1 hown hK hP 0 rfl rfl 1 (by decide) hf20 (fun _ h9 => h9) rfl dX1_roundLoad_13 ?_
    refine lv_iload_n hx hb dX1_roundLoad_16 rfl (lv_at hl 0 rfl) ?_
    have hP : va_P G vwCl (cat [[(A 0, .inr (1, [.ref (A 1), .ref (A 2), .ref (A 3), .ref (A 4), .ref (A 5), .int (nI (D.2.2.2.2.2.1)), .int (D.2.2.2.2.2.2.1), .int (D.2.2.2.2.2.2.2.1), .int (D.2.2.2.2.2.2.2.2.1), .int (D.2.2.2.2.2.2.2.2.2)]))], rowW cyI (A 1) (A 6) (20) (D.1), rowW cyI (A 2) (A 7) (20) (D.2.1), rowW cyI (A 3) (A 8) (6) (D.2.2.1), rowW cyI (A 4) (A 9) (20) (D.2.2.2.1), rowW cyI (A 5) (A 10) (20) (D.2.2.2.2.1)]) H := hP
    have hD : va_D A9 (cat [[(A 0, .inr (1, [.ref (A 1), .ref (A 2), .ref (A 3), .ref (A 4), .ref (A 5), .int (nI (D.2.2.2.2.2.1)), .int (D.2.2.2.2.2.2.1), .int (D.2.2.2.2.2.2.2.1), .int (D.2.2.2.2.2.2.2.2.1), .int (D.2.2.2.2.2.2.2.2.2)]))], rowW cyI (A 1) (A 6) (20) (D.1), rowW cyI (A 2) (A 7) (20) (D.2.1), rowW cyI (A 3) (A 8) (6) (D.2.2.1), rowW cyI (A 4) (A 9) (20) (D.2.2.2.1), rowW cyI (A 5) (A 10) (20) (D.2.2.2.2.1)]) := hD
    refine gVi (gs := [[(A 0, .inr (1, [.ref (A 1), .ref (A 2), .ref (A 3), .ref (A 4), .ref (A 5), .int (nI (D.2.2.2.2.2.1)), .int (D.2.2.2.2.2.2.1), .int (D.2.2.2.2.2.2.2.1), .int (D.2.2.2.2.2.2.2.2.1), .int (D.2.2.2.2.2.2.2.2.2)]))], rowW cyI (A 1) (A 6) (20) (D.1), rowW cyI (A 2) (A 7) (20) (D.2.1), rowW cyI (A 3) (A 8) (6) (D.2.2.1), rowW cyI (A 4) (A 9) (20) (D.2.2.2.1), rowW cyI (A 5) (A 10) (20) (D.2.2.2.2.1)]) (As := [.int (nI (i))]) (rest := []) ⟨hx, hb, hml, hown, hts⟩ (c_X3_at l G cyI cyO (A 2) (A 7) 20 D.2.1 (nI (i)) (by omega)) (cwV 1 hts gX1_roundLoad_X3_at rfl rfl rfl (by decide +kernel) ⟨Nat.le_of_ble_eq_true rfl, Nat.le_of_ble_eq_true rfl⟩) hK hP hD hS hA [2] rfl rfl rfl 0 3 rfl rfl rfl hl.1 rfl (Nat.le_of_ble_eq_true rfl) dX1_roundLoad_17 ⟨Nat.le_refl _, Nat.le_refl _⟩ (fun H locs hP hD hS => ?_)
    have hP : va_P G vwCl (cat [[(A 0, .inr (1, [.ref (A 1), .ref (A 2), .ref (A 3), .ref (A 4), .ref (A 5), .int (nI (D.2.2.2.2.2.1)), .int (D.2.2.2.2.2.2.1), .int (D.2.2.2.2.2.2.2.1), .int (D.2.2.2.2.2.2.2.2.1), .int (D.2.2.2.2.2.2.2.2.2)]))], rowW cyI (A 1) (A 6) (20) (D.1), rowW cyI (A 2) (A 7) (20) (D.2.1), rowW cyI (A 3) (A 8) (6) (D.2.2.1), rowW cyI (A 4) (A 9) (20) (D.2.2.2.1), rowW cyI (A 5) (A 10) (20) (D.2.2.2.2.1)]) H := hP
    have hD : va_D A9 (cat [[(A 0, .inr (1, [.ref (A 1), .ref (A 2), .ref (A 3), .ref (A 4), .ref (A 5), .int (nI (D.2.2.2.2.2.1)), .int (D.2.2.2.2.2.2.1), .int (D.2.2.2.2.2.2.2.1), .int (D.2.2.2.2.2.2.2.2.1), .int (D.2.2.2.2.2.2.2.2.2)]))], rowW cyI (A 1) (A 6) (20) (D.1), rowW cyI (A 2) (A 7) (20) (D.2.1), rowW cyI (A 3) (A 8) (6) (D.2.2.1), rowW cyI (A 4) (A 9) (20) (D.2.2.2.1), rowW cyI (A 5) (A 10) (20) (D.2.2.2.2.1)]) := hD
    refine top_i (x' := D.2.1 i) (rowAt_in (by omega) (by omega)) ?_
    refine lv_iload_n hx hb dX1_roundLoad_20 rfl (lv_at hl 3 rfl) ?_
    refine lv_icmp_ne (tgt := 35) hx hb dX1_roundLoad_21 (by decide) (fun c_21 => ?_) (fun c_21 => ?_)
    · refine lv_iinc (v := nI (i + 1)) (lv' := [(3, .int (nI (i + 1))), (2, .int (x)), (0, .ref (A 0)), (1, .int (y))]) hx hb dX1_roundLoad_35 hl (k := 0) rfl (nI_add _ _) (by decide) rfl (fun ls hl => ?_)
      refine lv_goto (tgt := 4) hx hb dX1_roundLoad_38 (by decide) ?_
      exact ih_4 (i + 1, x) (by show (D.2.2.2.2.2.1 - (i + 1)) < (D.2.2.2.2.2.1 - i); omega) _ _ _ ⟨(show (i + 1) ≤ D.2.2.2.2.2.1 from by omega), (show x = itr (i + 1) (ldStep D.1 D.2.1 y) 0 from by show _ = ldStep _ _ _ i (itr i _ _); rw [← he]; simp [ldStep, c_9, c_21]), hP, hD, hS, lv_sub hl [0, 1, 2, 3] rfl⟩
    · refine lv_iload_n hx hb dX1_roundLoad_24 rfl (lv_at hl 1 rfl) ?_
      refine lv_aload_n hx hb dX1_roundLoad_25 rfl (lv_at hl 2 rfl) ?_
      refine va_get (v := .ref (A 1)) (C := RX1) (T := TX1) (N := 10) hx hb hts hinX1 hown hK hP 0 rfl rfl 0 (by decide) hf14 (fun _ h9 => h9) rfl dX1_roundLoad_26 ?_
      refine lv_iload_n hx hb dX1_roundLoad_29 rfl (lv_at hl 0 rfl) ?_
      refine gVi (gs := [[(A 0, .inr (1, [.ref (A 1), .ref (A 2), .ref (A 3), .ref (A 4), .ref (A 5), .int (nI (D.2.2.2.2.2.1)), .int (D.2.2.2.2.2.2.1), .int (D.2.2.2.2.2.2.2.1), .int (D.2.2.2.2.2.2.2.2.1), .int (D.2.2.2.2.2.2.2.2.2)]))], rowW cyI (A 1) (A 6) (20) (D.1), rowW cyI (A 2) (A 7) (20) (D.2.1), rowW cyI (A 3) (A 8) (6) (D.2.2.1), rowW cyI (A 4) (A 9) (20) (D.2.2.2.1), rowW cyI (A 5) (A 10) (20) (D.2.2.2.2.1)]) (As := [.int (nI (i))]) (rest := [.int (x)]) ⟨hx, hb, hml, hown, hts⟩ (c_X3_at l G cyI cyO (A 1) (A 6) 20 D.1 (nI (i)) (by omega)) (cwV 1 hts gX1_roundLoad_X3_at rfl rfl rfl (by decide +kernel) ⟨Nat.le_of_ble_eq_true rfl, Nat.le_of_ble_eq_true rfl⟩) hK hP hD hS hA [1] rfl rfl rfl 0 3 rfl rfl rfl hl.1 rfl (Nat.le_of_ble_eq_true rfl) dX1_roundLoad_30 ⟨Nat.le_refl _, Nat.le_refl _⟩ (fun H locs hP hD hS => ?_)
      have hP : va_P G vwCl (cat [[(A 0, .inr (1, [.ref (A 1), .ref (A 2), .ref (A 3), .ref (A 4), .ref (A 5), .int (nI (D.2.2.2.2.2.1)), .int (D.2.2.2.2.2.2.1), .int (D.2.2.2.2.2.2.2.1), .int (D.2.2.2.2.2.2.2.2.1), .int (D.2.2.2.2.2.2.2.2.2)]))], rowW cyI (A 1) (A 6) (20) (D.1), rowW cyI (A 2) (A 7) (20) (D.2.1), rowW cyI (A 3) (A 8) (6) (D.2.2.1), rowW cyI (A 4) (A 9) (20) (D.2.2.2.1), rowW cyI (A 5) (A 10) (20) (D.2.2.2.2.1)]) H := hP
      have hD : va_D A9 (cat [[(A 0, .inr (1, [.ref (A 1), .ref (A 2), .ref (A 3), .ref (A 4), .ref (A 5), .int (nI (D.2.2.2.2.2.1)), .int (D.2.2.2.2.2.2.1), .int (D.2.2.2.2.2.2.2.1), .int (D.2.2.2.2.2.2.2.2.1), .int (D.2.2.2.2.2.2.2.2.2)]))], rowW cyI (A 1) (A 6) (20) (D.1), rowW cyI (A 2) (A 7) (20) (D.2.1), rowW cyI (A 3) (A 8) (6) (D.2.2.1), rowW cyI (A 4) (A 9) (20) (D.2.2.2.1), rowW cyI (A 5) (A 10) (20) (D.2.2.2.2.1)]) := hD
      refine top_i (x' := D.1 i) (rowAt_in (by omega) (by omega)) ?_
      refine lv_iadd hx hb dX1_roundLoad_33 ?_
      refine lv_istore_n (lv' := [(2, .int (x + (D.1 i))), (3, .int (nI (i))), (0, .ref (A 0)), (1, .int (y))]) hx hb dX1_roundLoad_34 rfl hl (by decide) rfl (fun ls hl => ?_)
      refine lv_iinc (v := nI (i + 1)) (lv' := [(3, .int (nI (i + 1))), (2, .int (x + (D.1 i))), (0, .ref (A 0)), (1, .int (y))]) hx hb dX1_roundLoad_35 hl (k := 1) rfl (nI_add _ _) (by decide) rfl (fun ls hl => ?_)
      refine lv_goto (tgt := 4) hx hb dX1_roundLoad_38 (by decide) ?_
      exact ih_4 (i + 1, x + (D.1 i)) (by show (D.2.2.2.2.2.1 - (i + 1)) < (D.2.2.2.2.2.1 - i); omega) _ _ _ ⟨(show (i + 1) ≤ D.2.2.2.2.2.1 from by omega), (show (x + (D.1 i)) = itr (i + 1) (ldStep D.1 D.2.1 y) 0 from by show _ = ldStep _ _ _ i (itr i _ _); rw [← he]; simp [ldStep, c_9, c_21]), hP, hD, hS, lv_sub hl [0, 1, 2, 3] rfl⟩
abbrev rm_X1_roundDifference : Room := { frames := 2, cells := 0, slots := 0, locals := 44 }
set_option maxHeartbeats 4000000 in
set_option maxRecDepth 100000 in
theorem c_X1_roundDifference (l : Launch) (G : va_G) (cyI cyO : ClassId) (A : Nat → Nat) (D : DS) (hn : D.2.2.2.2.2.1 ≤ 20) : CI l G (TY cyI cyO) yX1_roundDifference wsX1_roundDifference rm_X1_roundDifference [.ref (A 0)] [dyW cyI A D] (nI (rDiff D.2.1 D.2.2.1 D.2.2.2.2.2.1)) [dyW cyI A D] := by
  refine wk_I (cc := cX1_roundDifference) (maxL := 5) (ret := (some .int)) (by decide) rfl (Nat.le_of_ble_eq_true rfl) ?_
  intro p9 e9 s9 m9 b9 t9 c9 A9 ls hx hb hr hts hown hlocks hml hK hA hD hP hl hS hnm
  have hl : lv_has ls 5 [(0, .ref (A 0))] := hl
  refine lv_iconst (v := (0 : Int32)) hx hb dX1_roundDifference_0 (by decide) ?_
  refine lv_istore_n (lv' := [(1, .int ((0 : Int32))), (0, .ref (A 0))]) hx hb dX1_roundDifference_1 rfl hl (by decide) rfl (fun ls hl => ?_)
  refine lv_bipush (v := (20 : Int32)) hx hb dX1_roundDifference_2 (by decide) ?_
  refine lv_istore_n (lv' := [(2, .int ((20 : Int32))), (1, .int ((0 : Int32))), (0, .ref (A 0))]) hx hb dX1_roundDifference_4 rfl hl (by decide) rfl (fun ls hl => ?_)
  refine lv_iconst (v := (0 : Int32)) hx hb dX1_roundDifference_5 (by decide) ?_
  refine lv_istore_n (lv' := [(3, .int ((0 : Int32))), (2, .int ((20 : Int32))), (1, .int ((0 : Int32))), (0, .ref (A 0))]) hx hb dX1_roundDifference_6 rfl hl (by decide) rfl (fun ls hl => ?_)
  refine W_loop (α := Nat × Nat × Nat) (I := fun a9 H locs ls => (a9.1 ≤ 6) ∧ (a9.2.1 ≤ 20 ∧ a9.2.2 ≤ 20) ∧ ((a9.2.1, a9.2.2) = itr a9.1 (dfStep D.2.1 D.2.2.1 D.2.2.2.2.2.1) (0, 20)) ∧ va_P G vwCl (cat [dyW cyI A D]) H ∧ va_D A9 (cat [dyW cyI A D]) ∧ va_S A9 s9.heap H locs ∧ lv_has ls 5 [(3, .int (nI (a9.1))), (2, .int (nI (a9.2.2))), (1, .int (nI (a9.2.1))), (0, .ref (A 0))]) (μ := fun a9 => 6 - a9.1) (st := fun a9 => []) ?_ (0, 0, 20) _ _ _ ⟨(show 0 ≤ 6 from by omega), (show 0 ≤ 20 ∧ 20 ≤ 20 from ⟨by omega, by omega⟩), (show (0, 20) = itr 0 (dfStep D.2.1 D.2.2.1 D.2.2.2.2.2.1) (0, 20) from rfl), hP, hD, hS, lv_sub hl [0, 1, 2, 3] rfl⟩
  intro a9 ih_7 H locs ls hI
  obtain ⟨i, x, w⟩ := a9
  obtain ⟨hi9, hxw9, he9, hP9, hD9, hS9, hl9⟩ := hI
  have hi : i ≤ 6 := hi9
  have hxw : x ≤ 20 ∧ w ≤ 20 := hxw9
  have he : (x, w) = itr i (dfStep D.2.1 D.2.2.1 D.2.2.2.2.2.1) (0, 20) := he9
  have hP : va_P G vwCl (cat [dyW cyI A D]) H := hP9
  have hD : va_D A9 (cat [dyW cyI A D]) := hD9
  have hS := hS9
  have hl : lv_has ls 5 [(3, .int (nI (i))), (2, .int (nI (w))), (1, .int (nI (x))), (0, .ref (A 0))] := hl9
  clear hi9 hxw9 he9 hP9 hD9 hS9 hl9
  refine lv_iload_n hx hb dX1_roundDifference_7 rfl (lv_at hl 0 rfl) ?_
  refine lv_bipush (v := (6 : Int32)) hx hb dX1_roundDifference_8 (by decide) ?_
  refine lv_icmp_ge (tgt := 60) hx hb dX1_roundDifference_10 (by decide) (fun c_10 => ?_) (fun c_10 => ?_)
  · have c_10 : (6) ≤ (i) := (nI_leI (a := 6) (b := i) (by omega) (by omega)).mp c_10
    obtain rfl : 6 = i := by omega
    have e1 : x = (dfAll D.2.1 D.2.2.1 D.2.2.2.2.2.1).1 := congrArg Prod.fst he
    have e2 : w = (dfAll D.2.1 D.2.2.1 D.2.2.2.2.2.1).2 := congrArg Prod.snd he
    refine lv_iload_n hx hb dX1_roundDifference_60 rfl (lv_at hl 2 rfl) ?_
    refine lv_iload_n hx hb dX1_roundDifference_61 rfl (lv_at hl 1 rfl) ?_
    refine lv_icmp_le (tgt := 71) hx hb dX1_roundDifference_62 (by decide) (fun c_62 => ?_) (fun c_62 => ?_)
    · have c_62 : (x) ≤ (w) := (nI_leI (a := x) (b := w) (by omega) (by omega)).mp c_62
      refine lv_iconst (v := (0 : Int32)) hx hb dX1_roundDifference_71 (by decide) ?_
      have hP : va_P G vwCl (cat [dyW cyI A D]) H := hP
      have hD : va_D A9 (cat [dyW cyI A D]) := hD
      exact end_i hx hb hr hlocks hK hP hD hS (by simp [rDiff, ← e1, ← e2, c_10, c_62] <;> rfl) dX1_roundDifference_72
    · have c_62 : ¬ (x) ≤ (w) := fun h9 => c_62 ((nI_leI (a := x) (b := w) (by omega) (by omega)).mpr h9)
      refine lv_iload_n hx hb dX1_roundDifference_65 rfl (lv_at hl 2 rfl) ?_
      refine lv_iload_n hx hb dX1_roundDifference_66 rfl (lv_at hl 1 rfl) ?_
      refine lv_isub hx hb dX1_roundDifference_67 ?_
      refine top_i (x' := nI (x - w)) (pk_sub (by omega)) ?_
      refine lv_goto (tgt := 72) hx hb dX1_roundDifference_68 (by decide) ?_
      have hP : va_P G vwCl (cat [dyW cyI A D]) H := hP
      have hD : va_D A9 (cat [dyW cyI A D]) := hD
      exact end_i hx hb hr hlocks hK hP hD hS (by simp [rDiff, ← e1, ← e2, c_10, c_62] <;> rfl) dX1_roundDifference_72
  · have c_10 : ¬ (6) ≤ (i) := fun h9 => c_10 ((nI_leI (a := 6) (b := i) (by omega) (by omega)).mpr h9)
    refine lv_aload_n hx hb dX1_roundDifference_13 rfl (lv_at hl 3 rfl) ?_
    refine lv_iload_n hx hb dX1_roundDifference_14 rfl (lv_at hl 0 rfl) ?_
    refine gVi (gs := [dyW cyI A D]) (As := [.int (nI (i))]) (rest := []) ⟨hx, hb, hml, hown, hts⟩ (c_X1_works l G cyI cyO A D i (by omega)) (cwV 1 hts gX1_roundDifference_X1_works rfl rfl rfl (by decide +kernel) ⟨Nat.le_of_ble_eq_true rfl, Nat.le_of_ble_eq_true rfl⟩) hK hP hD hS hA [0] rfl rfl rfl 0 1 rfl rfl rfl hl.1 rfl (Nat.le_of_ble_eq_true rfl) dX1_roundDifference_15 ⟨Nat.le_refl _, Nat.le_refl _⟩ (fun H locs hP hD hS => ?_)
    have hP : va_P G vwCl (cat [dyW cyI A D]) H := hP
    have hD : va_D A9 (cat [dyW cyI A D]) := hD
    refine lv_if_eq (tgt := 54) hx hb dX1_roundDifference_18 (by decide) (fun c_18 => ?_) (fun c_18 => ?_)
    · have c_18 : (decide (D.2.2.1 i = 1)) = false := bI_z.mp c_18
      have c_18 : ¬ (D.2.2.1 i = 1) := of_decide_eq_false c_18
      refine lv_iinc (v := nI (i + 1)) (lv' := [(3, .int (nI (i + 1))), (2, .int (nI (w))), (1, .int (nI (x))), (0, .ref (A 0))]) hx hb dX1_roundDifference_54 hl (k := 0) rfl (nI_add _ _) (by decide) rfl (fun ls hl => ?_)
      refine lv_goto (tgt := 7) hx hb dX1_roundDifference_57 (by decide) ?_
      exact ih_7 (i + 1, x, w) (by show (6 - (i + 1)) < (6 - i); omega) _ _ _ ⟨(show (i + 1) ≤ 6 from by omega), (show x ≤ 20 ∧ w ≤ 20 from ⟨by omega, by omega⟩), (show (x, w) = itr (i + 1) (dfStep D.2.1 D.2.2.1 D.2.2.2.2.2.1) (0, 20) from by show _ = dfStep _ _ _ i (itr i _ _); rw [← he]; simp [dfStep, c_10, c_18]), hP, hD, hS, lv_sub hl [0, 1, 2, 3] rfl⟩
    · have c_18 : (decide (D.2.2.1 i = 1)) = true := bI_nz.mp c_18
      have c_18 : (D.2.2.1 i = 1) := of_decide_eq_true c_18
      refine lv_aload_n hx hb dX1_roundDifference_21 rfl (lv_at hl 3 rfl) ?_
      refine lv_iload_n hx hb dX1_roundDifference_22 rfl (lv_at hl 0 rfl) ?_
      refine gVi (gs := [dyW cyI A D]) (As := [.int (nI (i))]) (rest := []) ⟨hx, hb, hml, hown, hts⟩ (c_X1_roundSize l G cyI cyO A D (nI (i)) (by omega)) (cwV 1 hts gX1_roundDifference_X1_roundSize rfl rfl rfl (by decide +kernel) ⟨Nat.le_of_ble_eq_true rfl, Nat.le_of_ble_eq_true rfl⟩) hK hP hD hS hA [0] rfl rfl rfl 0 1 rfl rfl rfl hl.1 rfl (Nat.le_of_ble_eq_true rfl) dX1_roundDifference_23 ⟨Nat.le_refl _, Nat.le_refl _⟩ (fun H locs hP hD hS => ?_)
      have hP : va_P G vwCl (cat [dyW cyI A D]) H := hP
      have hD : va_D A9 (cat [dyW cyI A D]) := hD
      have hsz := rSz_le D.2.1 D.2.2.2.2.2.1 (nI i)
      refine lv_istore (lv' := [(4, .int (nI (rSz D.2.1 D.2.2.2.2.2.1 (nI (i))))), (3, .int (nI (i))), (2, .int (nI (w))), (1, .int (nI (x))), (0, .ref (A 0))]) hx hb dX1_roundDifference_26 hl (by decide) rfl (fun ls hl => ?_)
      refine lv_iload hx hb dX1_roundDifference_28 (lv_at hl 0 rfl) ?_
      refine lv_iload_n hx hb dX1_roundDifference_30 rfl (lv_at hl 3 rfl) ?_
      refine lv_icmp_le (tgt := 39) hx hb dX1_roundDifference_31 (by decide) (fun c_31 => ?_) (fun c_31 => ?_)
      · have c_31 : (rSz D.2.1 D.2.2.2.2.2.1 (nI (i))) ≤ (x) := (nI_leI (a := rSz D.2.1 D.2.2.2.2.2.1 (nI (i))) (b := x) (by omega) (by omega)).mp c_31
        refine lv_iload_n hx hb dX1_roundDifference_39 rfl (lv_at hl 3 rfl) ?_
        refine lv_istore_n (lv' := [(1, .int (nI (x))), (4, .int (nI (rSz D.2.1 D.2.2.2.2.2.1 (nI (i))))), (3, .int (nI (i))), (2, .int (nI (w))), (0, .ref (A 0))]) hx hb dX1_roundDifference_40 rfl hl (by decide) rfl (fun ls hl => ?_)
        refine lv_iload hx hb dX1_roundDifference_41 (lv_at hl 1 rfl) ?_
        refine lv_iload_n hx hb dX1_roundDifference_43 rfl (lv_at hl 3 rfl) ?_
        refine lv_icmp_ge (tgt := 52) hx hb dX1_roundDifference_44 (by decide) (fun c_44 => ?_) (fun c_44 => ?_)
        · have c_44 : (w) ≤ (rSz D.2.1 D.2.2.2.2.2.1 (nI (i))) := (nI_leI (a := w) (b := rSz D.2.1 D.2.2.2.2.2.1 (nI (i))) (by omega) (by omega)).mp c_44
          refine lv_iload_n hx hb dX1_roundDifference_52 rfl (lv_at hl 3 rfl) ?_
          refine lv_istore_n (lv' := [(2, .int (nI (w))), (1, .int (nI (x))), (4, .int (nI (rSz D.2.1 D.2.2.2.2.2.1 (nI (i))))), (3, .int (nI (i))), (0, .ref (A 0))]) hx hb dX1_roundDifference_53 rfl hl (by decide) rfl (fun ls hl => ?_)
          refine lv_iinc (v := nI (i + 1)) (lv' := [(3, .int (nI (i + 1))), (2, .int (nI (w))), (1, .int (nI (x))), (4, .int (nI (rSz D.2.1 D.2.2.2.2.2.1 (nI (i))))), (0, .ref (A 0))]) hx hb dX1_roundDifference_54 hl (k := 3) rfl (nI_add _ _) (by decide) rfl (fun ls hl => ?_)
          refine lv_goto (tgt := 7) hx hb dX1_roundDifference_57 (by decide) ?_
          exact ih_7 (i + 1, x, w) (by show (6 - (i + 1)) < (6 - i); omega) _ _ _ ⟨(show (i + 1) ≤ 6 from by omega), (show x ≤ 20 ∧ w ≤ 20 from ⟨by omega, by omega⟩), (show (x, w) = itr (i + 1) (dfStep D.2.1 D.2.2.1 D.2.2.2.2.2.1) (0, 20) from by show _ = dfStep _ _ _ i (itr i _ _); rw [← he]; simp [dfStep, c_10, c_18, c_31, c_44]), hP, hD, hS, lv_sub hl [0, 1, 2, 4] rfl⟩
        · have c_44 : ¬ (w) ≤ (rSz D.2.1 D.2.2.2.2.2.1 (nI (i))) := fun h9 => c_44 ((nI_leI (a := w) (b := rSz D.2.1 D.2.2.2.2.2.1 (nI (i))) (by omega) (by omega)).mpr h9)
          refine lv_iload hx hb dX1_roundDifference_47 (lv_at hl 1 rfl) ?_
          refine lv_goto (tgt := 53) hx hb dX1_roundDifference_49 (by decide) ?_
          refine lv_istore_n (lv' := [(2, .int (nI (rSz D.2.1 D.2.2.2.2.2.1 (nI (i))))), (1, .int (nI (x))), (4, .int (nI (rSz D.2.1 D.2.2.2.2.2.1 (nI (i))))), (3, .int (nI (i))), (0, .ref (A 0))]) hx hb dX1_roundDifference_53 rfl hl (by decide) rfl (fun ls hl => ?_)
          refine lv_iinc (v := nI (i + 1)) (lv' := [(3, .int (nI (i + 1))), (2, .int (nI (rSz D.2.1 D.2.2.2.2.2.1 (nI (i))))), (1, .int (nI (x))), (4, .int (nI (rSz D.2.1 D.2.2.2.2.2.1 (nI (i))))), (0, .ref (A 0))]) hx hb dX1_roundDifference_54 hl (k := 3) rfl (nI_add _ _) (by decide) rfl (fun ls hl => ?_)
          refine lv_goto (tgt := 7) hx hb dX1_roundDifference_57 (by decide) ?_
          exact ih_7 (i + 1, x, rSz D.2.1 D.2.2.2.2.2.1 (nI (i))) (by show (6 - (i + 1)) < (6 - i); omega) _ _ _ ⟨(show (i + 1) ≤ 6 from by omega), (show x ≤ 20 ∧ (rSz D.2.1 D.2.2.2.2.2.1 (nI (i))) ≤ 20 from ⟨by omega, by omega⟩), (show (x, (rSz D.2.1 D.2.2.2.2.2.1 (nI (i)))) = itr (i + 1) (dfStep D.2.1 D.2.2.1 D.2.2.2.2.2.1) (0, 20) from by show _ = dfStep _ _ _ i (itr i _ _); rw [← he]; simp [dfStep, c_10, c_18, c_31, c_44]), hP, hD, hS, lv_sub hl [0, 1, 2, 4] rfl⟩
      · have c_31 : ¬ (rSz D.2.1 D.2.2.2.2.2.1 (nI (i))) ≤ (x) := fun h9 => c_31 ((nI_leI (a := rSz D.2.1 D.2.2.2.2.2.1 (nI (i))) (b := x) (by omega) (by omega)).mpr h9)
        refine lv_iload hx hb dX1_roundDifference_34 (lv_at hl 0 rfl) ?_
        refine lv_goto (tgt := 40) hx hb dX1_roundDifference_36 (by decide) ?_
        refine lv_istore_n (lv' := [(1, .int (nI (rSz D.2.1 D.2.2.2.2.2.1 (nI (i))))), (4, .int (nI (rSz D.2.1 D.2.2.2.2.2.1 (nI (i))))), (3, .int (nI (i))), (2, .int (nI (w))), (0, .ref (A 0))]) hx hb dX1_roundDifference_40 rfl hl (by decide) rfl (fun ls hl => ?_)
        refine lv_iload hx hb dX1_roundDifference_41 (lv_at hl 1 rfl) ?_
        refine lv_iload_n hx hb dX1_roundDifference_43 rfl (lv_at hl 3 rfl) ?_
        refine lv_icmp_ge (tgt := 52) hx hb dX1_roundDifference_44 (by decide) (fun c_44 => ?_) (fun c_44 => ?_)
        · have c_44 : (w) ≤ (rSz D.2.1 D.2.2.2.2.2.1 (nI (i))) := (nI_leI (a := w) (b := rSz D.2.1 D.2.2.2.2.2.1 (nI (i))) (by omega) (by omega)).mp c_44
          refine lv_iload_n hx hb dX1_roundDifference_52 rfl (lv_at hl 3 rfl) ?_
          refine lv_istore_n (lv' := [(2, .int (nI (w))), (1, .int (nI (rSz D.2.1 D.2.2.2.2.2.1 (nI (i))))), (4, .int (nI (rSz D.2.1 D.2.2.2.2.2.1 (nI (i))))), (3, .int (nI (i))), (0, .ref (A 0))]) hx hb dX1_roundDifference_53 rfl hl (by decide) rfl (fun ls hl => ?_)
          refine lv_iinc (v := nI (i + 1)) (lv' := [(3, .int (nI (i + 1))), (2, .int (nI (w))), (1, .int (nI (rSz D.2.1 D.2.2.2.2.2.1 (nI (i))))), (4, .int (nI (rSz D.2.1 D.2.2.2.2.2.1 (nI (i))))), (0, .ref (A 0))]) hx hb dX1_roundDifference_54 hl (k := 3) rfl (nI_add _ _) (by decide) rfl (fun ls hl => ?_)
          refine lv_goto (tgt := 7) hx hb dX1_roundDifference_57 (by decide) ?_
          exact ih_7 (i + 1, rSz D.2.1 D.2.2.2.2.2.1 (nI (i)), w) (by show (6 - (i + 1)) < (6 - i); omega) _ _ _ ⟨(show (i + 1) ≤ 6 from by omega), (show (rSz D.2.1 D.2.2.2.2.2.1 (nI (i))) ≤ 20 ∧ w ≤ 20 from ⟨by omega, by omega⟩), (show ((rSz D.2.1 D.2.2.2.2.2.1 (nI (i))), w) = itr (i + 1) (dfStep D.2.1 D.2.2.1 D.2.2.2.2.2.1) (0, 20) from by show _ = dfStep _ _ _ i (itr i _ _); rw [← he]; simp [dfStep, c_10, c_18, c_31, c_44]), hP, hD, hS, lv_sub hl [0, 1, 2, 4] rfl⟩
        · have c_44 : ¬ (w) ≤ (rSz D.2.1 D.2.2.2.2.2.1 (nI (i))) := fun h9 => c_44 ((nI_leI (a := w) (b := rSz D.2.1 D.2.2.2.2.2.1 (nI (i))) (by omega) (by omega)).mpr h9)
          refine lv_iload hx hb dX1_roundDifference_47 (lv_at hl 1 rfl) ?_
          refine lv_goto (tgt := 53) hx hb dX1_roundDifference_49 (by decide) ?_
          refine lv_istore_n (lv' := [(2, .int (nI (rSz D.2.1 D.2.2.2.2.2.1 (nI (i))))), (1, .int (nI (rSz D.2.1 D.2.2.2.2.2.1 (nI (i))))), (4, .int (nI (rSz D.2.1 D.2.2.2.2.2.1 (nI (i))))), (3, .int (nI (i))), (0, .ref (A 0))]) hx hb dX1_roundDifference_53 rfl hl (by decide) rfl (fun ls hl => ?_)
          refine lv_iinc (v := nI (i + 1)) (lv' := [(3, .int (nI (i + 1))), (2, .int (nI (rSz D.2.1 D.2.2.2.2.2.1 (nI (i))))), (1, .int (nI (rSz D.2.1 D.2.2.2.2.2.1 (nI (i))))), (4, .int (nI (rSz D.2.1 D.2.2.2.2.2.1 (nI (i))))), (0, .ref (A 0))]) hx hb dX1_roundDifference_54 hl (k := 3) rfl (nI_add _ _) (by decide) rfl (fun ls hl => ?_)
          refine lv_goto (tgt := 7) hx hb dX1_roundDifference_57 (by decide) ?_
          exact ih_7 (i + 1, rSz D.2.1 D.2.2.2.2.2.1 (nI (i)), rSz D.2.1 D.2.2.2.2.2.1 (nI (i))) (by show (6 - (i + 1)) < (6 - i); omega) _ _ _ ⟨(show (i + 1) ≤ 6 from by omega), (show (rSz D.2.1 D.2.2.2.2.2.1 (nI (i))) ≤ 20 ∧ (rSz D.2.1 D.2.2.2.2.2.1 (nI (i))) ≤ 20 from ⟨by omega, by omega⟩), (show ((rSz D.2.1 D.2.2.2.2.2.1 (nI (i))), (rSz D.2.1 D.2.2.2.2.2.1 (nI (i)))) = itr (i + 1) (dfStep D.2.1 D.2.2.1 D.2.2.2.2.2.1) (0, 20) from by show _ = dfStep _ _ _ i (itr i _ _); rw [← he]; simp [dfStep, c_10, c_18, c_31, c_44]), hP, hD, hS, lv_sub hl [0, 1, 2, 4] rfl⟩
abbrev rm_X1_copyFrom : Room := { frames := 2, cells := 0, slots := 0, locals := 43 }
set_option maxHeartbeats 4000000 in
set_option maxRecDepth 100000 in
theorem c_X1_copyFrom (l : Launch) (G : va_G) (cyI cyO : ClassId) (A A2 : Nat → Nat) (D D2 : DS) : CV l G (TY cyI cyO) yX1_copyFrom wsX1_copyFrom rm_X1_copyFrom [.ref (A 0), .ref (A2 0)] [dyW cyI A D, dyW cyI A2 D2] [dyW cyI A (dCopy D D2), dyW cyI A2 D2] := by
  refine wk_V (cc := cX1_copyFrom) (maxL := 2) (ret := none) (by decide) rfl (Nat.le_of_ble_eq_true rfl) ?_
  intro p9 e9 s9 m9 b9 t9 c9 A9 ls hx hb hr hts hown hlocks hml hK hA hD hP hl hS hnm
  have hl : lv_has ls 2 [(0, .ref (A 0)), (1, .ref (A2 0))] := hl
  have hinX1 : ∀ w ∈ wsX10, w ∈ wsX1_copyFrom := by decide +kernel
  have hf14 := hts (.fieldLink RX1 14 "DoorstepRounds$Dairy" "pints" "LDoorstepRounds$Row;") (by decide +kernel)
  have hf20 := hts (.fieldLink RX1 20 "DoorstepRounds$Dairy" "owners" "LDoorstepRounds$Row;") (by decide +kernel)
  have hf23 := hts (.fieldLink RX1 23 "DoorstepRounds$Dairy" "atWork" "LDoorstepRounds$Row;") (by decide +kernel)
  have hf26 := hts (.fieldLink RX1 26 "DoorstepRounds$Dairy" "newOwners" "LDoorstepRounds$Row;") (by decide +kernel)
  have hf29 := hts (.fieldLink RX1 29 "DoorstepRounds$Dairy" "oldOwners" "LDoorstepRounds$Row;") (by decide +kernel)
  have hf32 := hts (.fieldLink RX1 32 "DoorstepRounds$Dairy" "count" "I") (by decide +kernel)
  have hf36 := hts (.fieldLink RX1 36 "DoorstepRounds$Dairy" "step" "I") (by decide +kernel)
  have hf39 := hts (.fieldLink RX1 39 "DoorstepRounds$Dairy" "takenOver" "I") (by decide +kernel)
  have hf42 := hts (.fieldLink RX1 42 "DoorstepRounds$Dairy" "pintsBrought" "I") (by decide +kernel)
  have hf45 := hts (.fieldLink RX1 45 "DoorstepRounds$Dairy" "missed" "I") (by decide +kernel)
  have hP : va_P G vwCl (cat [dyW cyI A D, [(A2 0, .inr (1, [.ref (A2 1), .ref (A2 2), .ref (A2 3), .ref (A2 4), .ref (A2 5), .int (nI (D2.2.2.2.2.2.1)), .int (D2.2.2.2.2.2.2.1), .int (D2.2.2.2.2.2.2.2.1), .int (D2.2.2.2.2.2.2.2.2.1), .int (D2.2.2.2.2.2.2.2.2.2)]))], rowW cyI (A2 1) (A2 6) (20) (D2.1), rowW cyI (A2 2) (A2 7) (20) (D2.2.1), rowW cyI (A2 3) (A2 8) (6) (D2.2.2.1), rowW cyI (A2 4) (A2 9) (20) (D2.2.2.2.1), rowW cyI (A2 5) (A2 10) (20) (D2.2.2.2.2.1)]) s9.heap := hP
  have hD : va_D A9 (cat [dyW cyI A D, [(A2 0, .inr (1, [.ref (A2 1), .ref (A2 2), .ref (A2 3), .ref (A2 4), .ref (A2 5), .int (nI (D2.2.2.2.2.2.1)), .int (D2.2.2.2.2.2.2.1), .int (D2.2.2.2.2.2.2.2.1), .int (D2.2.2.2.2.2.2.2.2.1), .int (D2.2.2.2.2.2.2.2.2.2)]))], rowW cyI (A2 1) (A2 6) (20) (D2.1), rowW cyI (A2 2) (A2 7) (20) (D2.2.1), rowW cyI (A2 3) (A2 8) (6) (D2.2.2.1), rowW cyI (A2 4) (A2 9) (20) (D2.2.2.2.1), rowW cyI (A2 5) (A2 10) (20) (D2.2.2.2.2.1)]) := hD
  have hP : va_P G vwCl (cat [[(A 0, .inr (1, [.ref (A 1), .ref (A 2), .ref (A 3), .ref (A 4), .ref (A 5), .int (nI (D.2.2.2.2.2.1)), .int (D.2.2.2.2.2.2.1), .int (D.2.2.2.2.2.2.2.1), .int (D.2.2.2.2.2.2.2.2.1), .int (D.2.2.2.2.2.2.2.2.2)]))], rowW cyI (A 1) (A 6) (20) (D.1), rowW cyI (A 2) (A 7) (20) (D.2.1), rowW cyI (A 3) (A 8) (6) (D.2.2.1), rowW cyI (A 4) (A 9) (20) (D.2.2.2.1), rowW cyI (A 5) (A 10) (20) (D.2.2.2.2.1), [(A2 0, .inr (1, [.ref (A2 1), .ref (A2 2), .ref (A2 3), .ref (A2 4), .ref (A2 5), .int (nI (D2.2.2.2.2.2.1)), .int (D2.2.2.2.2.2.2.1), .int (D2.2.2.2.2.2.2.2.1), .int (D2.2.2.2.2.2.2.2.2.1), .int (D2.2.2.2.2.2.2.2.2.2)]))], rowW cyI (A2 1) (A2 6) (20) (D2.1), rowW cyI (A2 2) (A2 7) (20) (D2.2.1), rowW cyI (A2 3) (A2 8) (6) (D2.2.2.1), rowW cyI (A2 4) (A2 9) (20) (D2.2.2.2.1), rowW cyI (A2 5) (A2 10) (20) (D2.2.2.2.2.1)]) s9.heap := hP
  have hD : va_D A9 (cat [[(A 0, .inr (1, [.ref (A 1), .ref (A 2), .ref (A 3), .ref (A 4), .ref (A 5), .int (nI (D.2.2.2.2.2.1)), .int (D.2.2.2.2.2.2.1), .int (D.2.2.2.2.2.2.2.1), .int (D.2.2.2.2.2.2.2.2.1), .int (D.2.2.2.2.2.2.2.2.2)]))], rowW cyI (A 1) (A 6) (20) (D.1), rowW cyI (A 2) (A 7) (20) (D.2.1), rowW cyI (A 3) (A 8) (6) (D.2.2.1), rowW cyI (A 4) (A 9) (20) (D.2.2.2.1), rowW cyI (A 5) (A 10) (20) (D.2.2.2.2.1), [(A2 0, .inr (1, [.ref (A2 1), .ref (A2 2), .ref (A2 3), .ref (A2 4), .ref (A2 5), .int (nI (D2.2.2.2.2.2.1)), .int (D2.2.2.2.2.2.2.1), .int (D2.2.2.2.2.2.2.2.1), .int (D2.2.2.2.2.2.2.2.2.1), .int (D2.2.2.2.2.2.2.2.2.2)]))], rowW cyI (A2 1) (A2 6) (20) (D2.1), rowW cyI (A2 2) (A2 7) (20) (D2.2.1), rowW cyI (A2 3) (A2 8) (6) (D2.2.2.1), rowW cyI (A2 4) (A2 9) (20) (D2.2.2.2.1), rowW cyI (A2 5) (A2 10) (20) (D2.2.2.2.2.1)]) := hD
  refine lv_aload_n hx hb dX1_copyFrom_0 rfl (lv_at hl 0 rfl) ?_
  refine va_get (v := .ref (A 1)) (C := RX1) (T := TX1) (N := 10) hx hb hts hinX1 hown hK hP 0 rfl rfl 0 (by decide) hf14 (fun _ h9 => h9) rfl dX1_copyFrom_1 ?_
  refine lv_aload_n hx hb dX1_copyFrom_4 rfl (lv_at hl 1 rfl) ?_
  refine va_get (v := .ref (A2 1)) (C := RX1) (T := TX1) (N := 10) hx hb hts hinX1 hown hK hP 11 rfl rfl 0 (by decide) hf14 (fun _ h9 => h9) rfl dX1_copyFrom_5 ?_
  refine gVv (gs := [[(A 0, .inr (1, [.ref (A 1), .ref (A 2), .ref (A 3), .ref (A 4), .ref (A 5), .int (nI (D.2.2.2.2.2.1)), .int (D.2.2.2.2.2.2.1), .int (D.2.2.2.2.2.2.2.1), .int (D.2.2.2.2.2.2.2.2.1), .int (D.2.2.2.2.2.2.2.2.2)]))], rowW cyI (A 1) (A 6) (20) (D.1), rowW cyI (A 2) (A 7) (20) (D.2.1), rowW cyI (A 3) (A 8) (6) (D.2.2.1), rowW cyI (A 4) (A 9) (20) (D.2.2.2.1), rowW cyI (A 5) (A 10) (20) (D.2.2.2.2.1), [(A2 0, .inr (1, [.ref (A2 1), .ref (A2 2), .ref (A2 3), .ref (A2 4), .ref (A2 5), .int (nI (D2.2.2.2.2.2.1)), .int (D2.2.2.2.2.2.2.1), .int (D2.2.2.2.2.2.2.2.1), .int (D2.2.2.2.2.2.2.2.2.1), .int (D2.2.2.2.2.2.2.2.2.2)]))], rowW cyI (A2 1) (A2 6) (20) (D2.1), rowW cyI (A2 2) (A2 7) (20) (D2.2.1), rowW cyI (A2 3) (A2 8) (6) (D2.2.2.1), rowW cyI (A2 4) (A2 9) (20) (D2.2.2.2.1), rowW cyI (A2 5) (A2 10) (20) (D2.2.2.2.2.1)]) (As := [.ref (A2 1)]) (rest := []) ⟨hx, hb, hml, hown, hts⟩ (c_X3_copyFrom l G cyI cyO (A 1) (A 6) 20 (A2 1) (A2 6) D.1 D2.1 (by omega)) (cwV 1 hts gX1_copyFrom_X3_copyFrom rfl rfl rfl (by decide +kernel) ⟨Nat.le_of_ble_eq_true rfl, Nat.le_of_ble_eq_true rfl⟩) hK hP hD hS hA [1, 7] rfl rfl rfl 0 3 rfl rfl rfl hl.1 rfl (Nat.le_of_ble_eq_true rfl) dX1_copyFrom_8 ⟨Nat.le_refl _, Nat.le_refl _⟩ (fun H locs hP hD hS => ?_)
  have hP : va_P G vwCl (cat [[(A 0, .inr (1, [.ref (A 1), .ref (A 2), .ref (A 3), .ref (A 4), .ref (A 5), .int (nI (D.2.2.2.2.2.1)), .int (D.2.2.2.2.2.2.1), .int (D.2.2.2.2.2.2.2.1), .int (D.2.2.2.2.2.2.2.2.1), .int (D.2.2.2.2.2.2.2.2.2)]))], rowW cyI (A 1) (A 6) (20) (rowCopy D.1 D2.1 20), rowW cyI (A 2) (A 7) (20) (D.2.1), rowW cyI (A 3) (A 8) (6) (D.2.2.1), rowW cyI (A 4) (A 9) (20) (D.2.2.2.1), rowW cyI (A 5) (A 10) (20) (D.2.2.2.2.1), [(A2 0, .inr (1, [.ref (A2 1), .ref (A2 2), .ref (A2 3), .ref (A2 4), .ref (A2 5), .int (nI (D2.2.2.2.2.2.1)), .int (D2.2.2.2.2.2.2.1), .int (D2.2.2.2.2.2.2.2.1), .int (D2.2.2.2.2.2.2.2.2.1), .int (D2.2.2.2.2.2.2.2.2.2)]))], rowW cyI (A2 1) (A2 6) (20) (D2.1), rowW cyI (A2 2) (A2 7) (20) (D2.2.1), rowW cyI (A2 3) (A2 8) (6) (D2.2.2.1), rowW cyI (A2 4) (A2 9) (20) (D2.2.2.2.1), rowW cyI (A2 5) (A2 10) (20) (D2.2.2.2.2.1)]) H := hP
  have hD : va_D A9 (cat [[(A 0, .inr (1, [.ref (A 1), .ref (A 2), .ref (A 3), .ref (A 4), .ref (A 5), .int (nI (D.2.2.2.2.2.1)), .int (D.2.2.2.2.2.2.1), .int (D.2.2.2.2.2.2.2.1), .int (D.2.2.2.2.2.2.2.2.1), .int (D.2.2.2.2.2.2.2.2.2)]))], rowW cyI (A 1) (A 6) (20) (rowCopy D.1 D2.1 20), rowW cyI (A 2) (A 7) (20) (D.2.1), rowW cyI (A 3) (A 8) (6) (D.2.2.1), rowW cyI (A 4) (A 9) (20) (D.2.2.2.1), rowW cyI (A 5) (A 10) (20) (D.2.2.2.2.1), [(A2 0, .inr (1, [.ref (A2 1), .ref (A2 2), .ref (A2 3), .ref (A2 4), .ref (A2 5), .int (nI (D2.2.2.2.2.2.1)), .int (D2.2.2.2.2.2.2.1), .int (D2.2.2.2.2.2.2.2.1), .int (D2.2.2.2.2.2.2.2.2.1), .int (D2.2.2.2.2.2.2.2.2.2)]))], rowW cyI (A2 1) (A2 6) (20) (D2.1), rowW cyI (A2 2) (A2 7) (20) (D2.2.1), rowW cyI (A2 3) (A2 8) (6) (D2.2.2.1), rowW cyI (A2 4) (A2 9) (20) (D2.2.2.2.1), rowW cyI (A2 5) (A2 10) (20) (D2.2.2.2.2.1)]) := hD
  refine lv_aload_n hx hb dX1_copyFrom_11 rfl (lv_at hl 0 rfl) ?_
  refine va_get (v := .ref (A 2)) (C := RX1) (T := TX1) (N := 10) hx hb hts hinX1 hown hK hP 0 rfl rfl 1 (by decide) hf20 (fun _ h9 => h9) rfl dX1_copyFrom_12 ?_
  refine lv_aload_n hx hb dX1_copyFrom_15 rfl (lv_at hl 1 rfl) ?_
  refine va_get (v := .ref (A2 2)) (C := RX1) (T := TX1) (N := 10) hx hb hts hinX1 hown hK hP 11 rfl rfl 1 (by decide) hf20 (fun _ h9 => h9) rfl dX1_copyFrom_16 ?_
  refine gVv (gs := [[(A 0, .inr (1, [.ref (A 1), .ref (A 2), .ref (A 3), .ref (A 4), .ref (A 5), .int (nI (D.2.2.2.2.2.1)), .int (D.2.2.2.2.2.2.1), .int (D.2.2.2.2.2.2.2.1), .int (D.2.2.2.2.2.2.2.2.1), .int (D.2.2.2.2.2.2.2.2.2)]))], rowW cyI (A 1) (A 6) (20) (rowCopy D.1 D2.1 20), rowW cyI (A 2) (A 7) (20) (D.2.1), rowW cyI (A 3) (A 8) (6) (D.2.2.1), rowW cyI (A 4) (A 9) (20) (D.2.2.2.1), rowW cyI (A 5) (A 10) (20) (D.2.2.2.2.1), [(A2 0, .inr (1, [.ref (A2 1), .ref (A2 2), .ref (A2 3), .ref (A2 4), .ref (A2 5), .int (nI (D2.2.2.2.2.2.1)), .int (D2.2.2.2.2.2.2.1), .int (D2.2.2.2.2.2.2.2.1), .int (D2.2.2.2.2.2.2.2.2.1), .int (D2.2.2.2.2.2.2.2.2.2)]))], rowW cyI (A2 1) (A2 6) (20) (D2.1), rowW cyI (A2 2) (A2 7) (20) (D2.2.1), rowW cyI (A2 3) (A2 8) (6) (D2.2.2.1), rowW cyI (A2 4) (A2 9) (20) (D2.2.2.2.1), rowW cyI (A2 5) (A2 10) (20) (D2.2.2.2.2.1)]) (As := [.ref (A2 2)]) (rest := []) ⟨hx, hb, hml, hown, hts⟩ (c_X3_copyFrom l G cyI cyO (A 2) (A 7) 20 (A2 2) (A2 7) D.2.1 D2.2.1 (by omega)) (cwV 1 hts gX1_copyFrom_X3_copyFrom rfl rfl rfl (by decide +kernel) ⟨Nat.le_of_ble_eq_true rfl, Nat.le_of_ble_eq_true rfl⟩) hK hP hD hS hA [2, 8] rfl rfl rfl 0 3 rfl rfl rfl hl.1 rfl (Nat.le_of_ble_eq_true rfl) dX1_copyFrom_19 ⟨Nat.le_refl _, Nat.le_refl _⟩ (fun H locs hP hD hS => ?_)
  have hP : va_P G vwCl (cat [[(A 0, .inr (1, [.ref (A 1), .ref (A 2), .ref (A 3), .ref (A 4), .ref (A 5), .int (nI (D.2.2.2.2.2.1)), .int (D.2.2.2.2.2.2.1), .int (D.2.2.2.2.2.2.2.1), .int (D.2.2.2.2.2.2.2.2.1), .int (D.2.2.2.2.2.2.2.2.2)]))], rowW cyI (A 1) (A 6) (20) (rowCopy D.1 D2.1 20), rowW cyI (A 2) (A 7) (20) (rowCopy D.2.1 D2.2.1 20), rowW cyI (A 3) (A 8) (6) (D.2.2.1), rowW cyI (A 4) (A 9) (20) (D.2.2.2.1), rowW cyI (A 5) (A 10) (20) (D.2.2.2.2.1), [(A2 0, .inr (1, [.ref (A2 1), .ref (A2 2), .ref (A2 3), .ref (A2 4), .ref (A2 5), .int (nI (D2.2.2.2.2.2.1)), .int (D2.2.2.2.2.2.2.1), .int (D2.2.2.2.2.2.2.2.1), .int (D2.2.2.2.2.2.2.2.2.1), .int (D2.2.2.2.2.2.2.2.2.2)]))], rowW cyI (A2 1) (A2 6) (20) (D2.1), rowW cyI (A2 2) (A2 7) (20) (D2.2.1), rowW cyI (A2 3) (A2 8) (6) (D2.2.2.1), rowW cyI (A2 4) (A2 9) (20) (D2.2.2.2.1), rowW cyI (A2 5) (A2 10) (20) (D2.2.2.2.2.1)]) H := hP
  have hD : va_D A9 (cat [[(A 0, .inr (1, [.ref (A 1), .ref (A 2), .ref (A 3), .ref (A 4), .ref (A 5), .int (nI (D.2.2.2.2.2.1)), .int (D.2.2.2.2.2.2.1), .int (D.2.2.2.2.2.2.2.1), .int (D.2.2.2.2.2.2.2.2.1), .int (D.2.2.2.2.2.2.2.2.2)]))], rowW cyI (A 1) (A 6) (20) (rowCopy D.1 D2.1 20), rowW cyI (A 2) (A 7) (20) (rowCopy D.2.1 D2.2.1 20), rowW cyI (A 3) (A 8) (6) (D.2.2.1), rowW cyI (A 4) (A 9) (20) (D.2.2.2.1), rowW cyI (A 5) (A 10) (20) (D.2.2.2.2.1), [(A2 0, .inr (1, [.ref (A2 1), .ref (A2 2), .ref (A2 3), .ref (A2 4), .ref (A2 5), .int (nI (D2.2.2.2.2.2.1)), .int (D2.2.2.2.2.2.2.1), .int (D2.2.2.2.2.2.2.2.1), .int (D2.2.2.2.2.2.2.2.2.1), .int (D2.2.2.2.2.2.2.2.2.2)]))], rowW cyI (A2 1) (A2 6) (20) (D2.1), rowW cyI (A2 2) (A2 7) (20) (D2.2.1), rowW cyI (A2 3) (A2 8) (6) (D2.2.2.1), rowW cyI (A2 4) (A2 9) (20) (D2.2.2.2.1), rowW cyI (A2 5) (A2 10) (20) (D2.2.2.2.2.1)]) := hD
  refine lv_aload_n hx hb dX1_copyFrom_22 rfl (lv_at hl 0 rfl) ?_
  refine va_get (v := .ref (A 3)) (C := RX1) (T := TX1) (N := 10) hx hb hts hinX1 hown hK hP 0 rfl rfl 2 (by decide) hf23 (fun _ h9 => h9) rfl dX1_copyFrom_23 ?_
  refine lv_aload_n hx hb dX1_copyFrom_26 rfl (lv_at hl 1 rfl) ?_
  refine va_get (v := .ref (A2 3)) (C := RX1) (T := TX1) (N := 10) hx hb hts hinX1 hown hK hP 11 rfl rfl 2 (by decide) hf23 (fun _ h9 => h9) rfl dX1_copyFrom_27 ?_
  refine gVv (gs := [[(A 0, .inr (1, [.ref (A 1), .ref (A 2), .ref (A 3), .ref (A 4), .ref (A 5), .int (nI (D.2.2.2.2.2.1)), .int (D.2.2.2.2.2.2.1), .int (D.2.2.2.2.2.2.2.1), .int (D.2.2.2.2.2.2.2.2.1), .int (D.2.2.2.2.2.2.2.2.2)]))], rowW cyI (A 1) (A 6) (20) (rowCopy D.1 D2.1 20), rowW cyI (A 2) (A 7) (20) (rowCopy D.2.1 D2.2.1 20), rowW cyI (A 3) (A 8) (6) (D.2.2.1), rowW cyI (A 4) (A 9) (20) (D.2.2.2.1), rowW cyI (A 5) (A 10) (20) (D.2.2.2.2.1), [(A2 0, .inr (1, [.ref (A2 1), .ref (A2 2), .ref (A2 3), .ref (A2 4), .ref (A2 5), .int (nI (D2.2.2.2.2.2.1)), .int (D2.2.2.2.2.2.2.1), .int (D2.2.2.2.2.2.2.2.1), .int (D2.2.2.2.2.2.2.2.2.1), .int (D2.2.2.2.2.2.2.2.2.2)]))], rowW cyI (A2 1) (A2 6) (20) (D2.1), rowW cyI (A2 2) (A2 7) (20) (D2.2.1), rowW cyI (A2 3) (A2 8) (6) (D2.2.2.1), rowW cyI (A2 4) (A2 9) (20) (D2.2.2.2.1), rowW cyI (A2 5) (A2 10) (20) (D2.2.2.2.2.1)]) (As := [.ref (A2 3)]) (rest := []) ⟨hx, hb, hml, hown, hts⟩ (c_X3_copyFrom l G cyI cyO (A 3) (A 8) 6 (A2 3) (A2 8) D.2.2.1 D2.2.2.1 (by omega)) (cwV 1 hts gX1_copyFrom_X3_copyFrom rfl rfl rfl (by decide +kernel) ⟨Nat.le_of_ble_eq_true rfl, Nat.le_of_ble_eq_true rfl⟩) hK hP hD hS hA [3, 9] rfl rfl rfl 0 3 rfl rfl rfl hl.1 rfl (Nat.le_of_ble_eq_true rfl) dX1_copyFrom_30 ⟨Nat.le_refl _, Nat.le_refl _⟩ (fun H locs hP hD hS => ?_)
  have hP : va_P G vwCl (cat [[(A 0, .inr (1, [.ref (A 1), .ref (A 2), .ref (A 3), .ref (A 4), .ref (A 5), .int (nI (D.2.2.2.2.2.1)), .int (D.2.2.2.2.2.2.1), .int (D.2.2.2.2.2.2.2.1), .int (D.2.2.2.2.2.2.2.2.1), .int (D.2.2.2.2.2.2.2.2.2)]))], rowW cyI (A 1) (A 6) (20) (rowCopy D.1 D2.1 20), rowW cyI (A 2) (A 7) (20) (rowCopy D.2.1 D2.2.1 20), rowW cyI (A 3) (A 8) (6) (rowCopy D.2.2.1 D2.2.2.1 6), rowW cyI (A 4) (A 9) (20) (D.2.2.2.1), rowW cyI (A 5) (A 10) (20) (D.2.2.2.2.1), [(A2 0, .inr (1, [.ref (A2 1), .ref (A2 2), .ref (A2 3), .ref (A2 4), .ref (A2 5), .int (nI (D2.2.2.2.2.2.1)), .int (D2.2.2.2.2.2.2.1), .int (D2.2.2.2.2.2.2.2.1), .int (D2.2.2.2.2.2.2.2.2.1), .int (D2.2.2.2.2.2.2.2.2.2)]))], rowW cyI (A2 1) (A2 6) (20) (D2.1), rowW cyI (A2 2) (A2 7) (20) (D2.2.1), rowW cyI (A2 3) (A2 8) (6) (D2.2.2.1), rowW cyI (A2 4) (A2 9) (20) (D2.2.2.2.1), rowW cyI (A2 5) (A2 10) (20) (D2.2.2.2.2.1)]) H := hP
  have hD : va_D A9 (cat [[(A 0, .inr (1, [.ref (A 1), .ref (A 2), .ref (A 3), .ref (A 4), .ref (A 5), .int (nI (D.2.2.2.2.2.1)), .int (D.2.2.2.2.2.2.1), .int (D.2.2.2.2.2.2.2.1), .int (D.2.2.2.2.2.2.2.2.1), .int (D.2.2.2.2.2.2.2.2.2)]))], rowW cyI (A 1) (A 6) (20) (rowCopy D.1 D2.1 20), rowW cyI (A 2) (A 7) (20) (rowCopy D.2.1 D2.2.1 20), rowW cyI (A 3) (A 8) (6) (rowCopy D.2.2.1 D2.2.2.1 6), rowW cyI (A 4) (A 9) (20) (D.2.2.2.1), rowW cyI (A 5) (A 10) (20) (D.2.2.2.2.1), [(A2 0, .inr (1, [.ref (A2 1), .ref (A2 2), .ref (A2 3), .ref (A2 4), .ref (A2 5), .int (nI (D2.2.2.2.2.2.1)), .int (D2.2.2.2.2.2.2.1), .int (D2.2.2.2.2.2.2.2.1), .int (D2.2.2.2.2.2.2.2.2.1), .int (D2.2.2.2.2.2.2.2.2.2)]))], rowW cyI (A2 1) (A2 6) (20) (D2.1), rowW cyI (A2 2) (A2 7) (20) (D2.2.1), rowW cyI (A2 3) (A2 8) (6) (D2.2.2.1), rowW cyI (A2 4) (A2 9) (20) (D2.2.2.2.1), rowW cyI (A2 5) (A2 10) (20) (D2.2.2.2.2.1)]) := hD
  refine lv_aload_n hx hb dX1_copyFrom_33 rfl (lv_at hl 0 rfl) ?_
  refine va_get (v := .ref (A 4)) (C := RX1) (T := TX1) (N := 10) hx hb hts hinX1 hown hK hP 0 rfl rfl 3 (by decide) hf26 (fun _ h9 => h9) rfl dX1_copyFrom_34 ?_
  refine lv_aload_n hx hb dX1_copyFrom_37 rfl (lv_at hl 1 rfl) ?_
  refine va_get (v := .ref (A2 4)) (C := RX1) (T := TX1) (N := 10) hx hb hts hinX1 hown hK hP 11 rfl rfl 3 (by decide) hf26 (fun _ h9 => h9) rfl dX1_copyFrom_38 ?_
  refine gVv (gs := [[(A 0, .inr (1, [.ref (A 1), .ref (A 2), .ref (A 3), .ref (A 4), .ref (A 5), .int (nI (D.2.2.2.2.2.1)), .int (D.2.2.2.2.2.2.1), .int (D.2.2.2.2.2.2.2.1), .int (D.2.2.2.2.2.2.2.2.1), .int (D.2.2.2.2.2.2.2.2.2)]))], rowW cyI (A 1) (A 6) (20) (rowCopy D.1 D2.1 20), rowW cyI (A 2) (A 7) (20) (rowCopy D.2.1 D2.2.1 20), rowW cyI (A 3) (A 8) (6) (rowCopy D.2.2.1 D2.2.2.1 6), rowW cyI (A 4) (A 9) (20) (D.2.2.2.1), rowW cyI (A 5) (A 10) (20) (D.2.2.2.2.1), [(A2 0, .inr (1, [.ref (A2 1), .ref (A2 2), .ref (A2 3), .ref (A2 4), .ref (A2 5), .int (nI (D2.2.2.2.2.2.1)), .int (D2.2.2.2.2.2.2.1), .int (D2.2.2.2.2.2.2.2.1), .int (D2.2.2.2.2.2.2.2.2.1), .int (D2.2.2.2.2.2.2.2.2.2)]))], rowW cyI (A2 1) (A2 6) (20) (D2.1), rowW cyI (A2 2) (A2 7) (20) (D2.2.1), rowW cyI (A2 3) (A2 8) (6) (D2.2.2.1), rowW cyI (A2 4) (A2 9) (20) (D2.2.2.2.1), rowW cyI (A2 5) (A2 10) (20) (D2.2.2.2.2.1)]) (As := [.ref (A2 4)]) (rest := []) ⟨hx, hb, hml, hown, hts⟩ (c_X3_copyFrom l G cyI cyO (A 4) (A 9) 20 (A2 4) (A2 9) D.2.2.2.1 D2.2.2.2.1 (by omega)) (cwV 1 hts gX1_copyFrom_X3_copyFrom rfl rfl rfl (by decide +kernel) ⟨Nat.le_of_ble_eq_true rfl, Nat.le_of_ble_eq_true rfl⟩) hK hP hD hS hA [4, 10] rfl rfl rfl 0 3 rfl rfl rfl hl.1 rfl (Nat.le_of_ble_eq_true rfl) dX1_copyFrom_41 ⟨Nat.le_refl _, Nat.le_refl _⟩ (fun H locs hP hD hS => ?_)
  have hP : va_P G vwCl (cat [[(A 0, .inr (1, [.ref (A 1), .ref (A 2), .ref (A 3), .ref (A 4), .ref (A 5), .int (nI (D.2.2.2.2.2.1)), .int (D.2.2.2.2.2.2.1), .int (D.2.2.2.2.2.2.2.1), .int (D.2.2.2.2.2.2.2.2.1), .int (D.2.2.2.2.2.2.2.2.2)]))], rowW cyI (A 1) (A 6) (20) (rowCopy D.1 D2.1 20), rowW cyI (A 2) (A 7) (20) (rowCopy D.2.1 D2.2.1 20), rowW cyI (A 3) (A 8) (6) (rowCopy D.2.2.1 D2.2.2.1 6), rowW cyI (A 4) (A 9) (20) (rowCopy D.2.2.2.1 D2.2.2.2.1 20), rowW cyI (A 5) (A 10) (20) (D.2.2.2.2.1), [(A2 0, .inr (1, [.ref (A2 1), .ref (A2 2), .ref (A2 3), .ref (A2 4), .ref (A2 5), .int (nI (D2.2.2.2.2.2.1)), .int (D2.2.2.2.2.2.2.1), .int (D2.2.2.2.2.2.2.2.1), .int (D2.2.2.2.2.2.2.2.2.1), .int (D2.2.2.2.2.2.2.2.2.2)]))], rowW cyI (A2 1) (A2 6) (20) (D2.1), rowW cyI (A2 2) (A2 7) (20) (D2.2.1), rowW cyI (A2 3) (A2 8) (6) (D2.2.2.1), rowW cyI (A2 4) (A2 9) (20) (D2.2.2.2.1), rowW cyI (A2 5) (A2 10) (20) (D2.2.2.2.2.1)]) H := hP
  have hD : va_D A9 (cat [[(A 0, .inr (1, [.ref (A 1), .ref (A 2), .ref (A 3), .ref (A 4), .ref (A 5), .int (nI (D.2.2.2.2.2.1)), .int (D.2.2.2.2.2.2.1), .int (D.2.2.2.2.2.2.2.1), .int (D.2.2.2.2.2.2.2.2.1), .int (D.2.2.2.2.2.2.2.2.2)]))], rowW cyI (A 1) (A 6) (20) (rowCopy D.1 D2.1 20), rowW cyI (A 2) (A 7) (20) (rowCopy D.2.1 D2.2.1 20), rowW cyI (A 3) (A 8) (6) (rowCopy D.2.2.1 D2.2.2.1 6), rowW cyI (A 4) (A 9) (20) (rowCopy D.2.2.2.1 D2.2.2.2.1 20), rowW cyI (A 5) (A 10) (20) (D.2.2.2.2.1), [(A2 0, .inr (1, [.ref (A2 1), .ref (A2 2), .ref (A2 3), .ref (A2 4), .ref (A2 5), .int (nI (D2.2.2.2.2.2.1)), .int (D2.2.2.2.2.2.2.1), .int (D2.2.2.2.2.2.2.2.1), .int (D2.2.2.2.2.2.2.2.2.1), .int (D2.2.2.2.2.2.2.2.2.2)]))], rowW cyI (A2 1) (A2 6) (20) (D2.1), rowW cyI (A2 2) (A2 7) (20) (D2.2.1), rowW cyI (A2 3) (A2 8) (6) (D2.2.2.1), rowW cyI (A2 4) (A2 9) (20) (D2.2.2.2.1), rowW cyI (A2 5) (A2 10) (20) (D2.2.2.2.2.1)]) := hD
  refine lv_aload_n hx hb dX1_copyFrom_44 rfl (lv_at hl 0 rfl) ?_
  refine va_get (v := .ref (A 5)) (C := RX1) (T := TX1) (N := 10) hx hb hts hinX1 hown hK hP 0 rfl rfl 4 (by decide) hf29 (fun _ h9 => h9) rfl dX1_copyFrom_45 ?_
  refine lv_aload_n hx hb dX1_copyFrom_48 rfl (lv_at hl 1 rfl) ?_
  refine va_get (v := .ref (A2 5)) (C := RX1) (T := TX1) (N := 10) hx hb hts hinX1 hown hK hP 11 rfl rfl 4 (by decide) hf29 (fun _ h9 => h9) rfl dX1_copyFrom_49 ?_
  refine gVv (gs := [[(A 0, .inr (1, [.ref (A 1), .ref (A 2), .ref (A 3), .ref (A 4), .ref (A 5), .int (nI (D.2.2.2.2.2.1)), .int (D.2.2.2.2.2.2.1), .int (D.2.2.2.2.2.2.2.1), .int (D.2.2.2.2.2.2.2.2.1), .int (D.2.2.2.2.2.2.2.2.2)]))], rowW cyI (A 1) (A 6) (20) (rowCopy D.1 D2.1 20), rowW cyI (A 2) (A 7) (20) (rowCopy D.2.1 D2.2.1 20), rowW cyI (A 3) (A 8) (6) (rowCopy D.2.2.1 D2.2.2.1 6), rowW cyI (A 4) (A 9) (20) (rowCopy D.2.2.2.1 D2.2.2.2.1 20), rowW cyI (A 5) (A 10) (20) (D.2.2.2.2.1), [(A2 0, .inr (1, [.ref (A2 1), .ref (A2 2), .ref (A2 3), .ref (A2 4), .ref (A2 5), .int (nI (D2.2.2.2.2.2.1)), .int (D2.2.2.2.2.2.2.1), .int (D2.2.2.2.2.2.2.2.1), .int (D2.2.2.2.2.2.2.2.2.1), .int (D2.2.2.2.2.2.2.2.2.2)]))], rowW cyI (A2 1) (A2 6) (20) (D2.1), rowW cyI (A2 2) (A2 7) (20) (D2.2.1), rowW cyI (A2 3) (A2 8) (6) (D2.2.2.1), rowW cyI (A2 4) (A2 9) (20) (D2.2.2.2.1), rowW cyI (A2 5) (A2 10) (20) (D2.2.2.2.2.1)]) (As := [.ref (A2 5)]) (rest := []) ⟨hx, hb, hml, hown, hts⟩ (c_X3_copyFrom l G cyI cyO (A 5) (A 10) 20 (A2 5) (A2 10) D.2.2.2.2.1 D2.2.2.2.2.1 (by omega)) (cwV 1 hts gX1_copyFrom_X3_copyFrom rfl rfl rfl (by decide +kernel) ⟨Nat.le_of_ble_eq_true rfl, Nat.le_of_ble_eq_true rfl⟩) hK hP hD hS hA [5, 11] rfl rfl rfl 0 3 rfl rfl rfl hl.1 rfl (Nat.le_of_ble_eq_true rfl) dX1_copyFrom_52 ⟨Nat.le_refl _, Nat.le_refl _⟩ (fun H locs hP hD hS => ?_)
  have hP : va_P G vwCl (cat [[(A 0, .inr (1, [.ref (A 1), .ref (A 2), .ref (A 3), .ref (A 4), .ref (A 5), .int (nI (D.2.2.2.2.2.1)), .int (D.2.2.2.2.2.2.1), .int (D.2.2.2.2.2.2.2.1), .int (D.2.2.2.2.2.2.2.2.1), .int (D.2.2.2.2.2.2.2.2.2)]))], rowW cyI (A 1) (A 6) (20) (rowCopy D.1 D2.1 20), rowW cyI (A 2) (A 7) (20) (rowCopy D.2.1 D2.2.1 20), rowW cyI (A 3) (A 8) (6) (rowCopy D.2.2.1 D2.2.2.1 6), rowW cyI (A 4) (A 9) (20) (rowCopy D.2.2.2.1 D2.2.2.2.1 20), rowW cyI (A 5) (A 10) (20) (rowCopy D.2.2.2.2.1 D2.2.2.2.2.1 20), [(A2 0, .inr (1, [.ref (A2 1), .ref (A2 2), .ref (A2 3), .ref (A2 4), .ref (A2 5), .int (nI (D2.2.2.2.2.2.1)), .int (D2.2.2.2.2.2.2.1), .int (D2.2.2.2.2.2.2.2.1), .int (D2.2.2.2.2.2.2.2.2.1), .int (D2.2.2.2.2.2.2.2.2.2)]))], rowW cyI (A2 1) (A2 6) (20) (D2.1), rowW cyI (A2 2) (A2 7) (20) (D2.2.1), rowW cyI (A2 3) (A2 8) (6) (D2.2.2.1), rowW cyI (A2 4) (A2 9) (20) (D2.2.2.2.1), rowW cyI (A2 5) (A2 10) (20) (D2.2.2.2.2.1)]) H := hP
  have hD : va_D A9 (cat [[(A 0, .inr (1, [.ref (A 1), .ref (A 2), .ref (A 3), .ref (A 4), .ref (A 5), .int (nI (D.2.2.2.2.2.1)), .int (D.2.2.2.2.2.2.1), .int (D.2.2.2.2.2.2.2.1), .int (D.2.2.2.2.2.2.2.2.1), .int (D.2.2.2.2.2.2.2.2.2)]))], rowW cyI (A 1) (A 6) (20) (rowCopy D.1 D2.1 20), rowW cyI (A 2) (A 7) (20) (rowCopy D.2.1 D2.2.1 20), rowW cyI (A 3) (A 8) (6) (rowCopy D.2.2.1 D2.2.2.1 6), rowW cyI (A 4) (A 9) (20) (rowCopy D.2.2.2.1 D2.2.2.2.1 20), rowW cyI (A 5) (A 10) (20) (rowCopy D.2.2.2.2.1 D2.2.2.2.2.1 20), [(A2 0, .inr (1, [.ref (A2 1), .ref (A2 2), .ref (A2 3), .ref (A2 4), .ref (A2 5), .int (nI (D2.2.2.2.2.2.1)), .int (D2.2.2.2.2.2.2.1), .int (D2.2.2.2.2.2.2.2.1), .int (D2.2.2.2.2.2.2.2.2.1), .int (D2.2.2.2.2.2.2.2.2.2)]))], rowW cyI (A2 1) (A2 6) (20) (D2.1), rowW cyI (A2 2) (A2 7) (20) (D2.2.1), rowW cyI (A2 3) (A2 8) (6) (D2.2.2.1), rowW cyI (A2 4) (A2 9) (20) (D2.2.2.2.1), rowW cyI (A2 5) (A2 10) (20) (D2.2.2.2.2.1)]) := hD
  refine lv_aload_n hx hb dX1_copyFrom_55 rfl (lv_at hl 0 rfl) ?_
  refine lv_aload_n hx hb dX1_copyFrom_56 rfl (lv_at hl 1 rfl) ?_
  refine va_get (v := .int (nI (D2.2.2.2.2.2.1))) (C := RX1) (T := TX1) (N := 10) hx hb hts hinX1 hown hK hP 11 rfl rfl 5 (by decide) hf32 (fun _ h9 => h9) rfl dX1_copyFrom_57 ?_
  refine va_put (v := .int (nI (D2.2.2.2.2.2.1))) (ty := .int) (C := RX1) (T := TX1) (N := 10) hx hb hts hinX1 tyX1 tyX1_ok nmX1 hown hK hP hD hS 0 rfl rfl 5 (by decide) hf32 (fun _ h9 => h9) rfl (by first | rfl | decide +kernel) rfl rfl (Nat.le_of_ble_eq_true rfl) dX1_copyFrom_60 (fun H locs hP hD hS => ?_)
  have hP : va_P G vwCl (cat [[(A 0, .inr (1, [.ref (A 1), .ref (A 2), .ref (A 3), .ref (A 4), .ref (A 5), .int (nI (D2.2.2.2.2.2.1)), .int (D.2.2.2.2.2.2.1), .int (D.2.2.2.2.2.2.2.1), .int (D.2.2.2.2.2.2.2.2.1), .int (D.2.2.2.2.2.2.2.2.2)]))], rowW cyI (A 1) (A 6) (20) (rowCopy D.1 D2.1 20), rowW cyI (A 2) (A 7) (20) (rowCopy D.2.1 D2.2.1 20), rowW cyI (A 3) (A 8) (6) (rowCopy D.2.2.1 D2.2.2.1 6), rowW cyI (A 4) (A 9) (20) (rowCopy D.2.2.2.1 D2.2.2.2.1 20), rowW cyI (A 5) (A 10) (20) (rowCopy D.2.2.2.2.1 D2.2.2.2.2.1 20), [(A2 0, .inr (1, [.ref (A2 1), .ref (A2 2), .ref (A2 3), .ref (A2 4), .ref (A2 5), .int (nI (D2.2.2.2.2.2.1)), .int (D2.2.2.2.2.2.2.1), .int (D2.2.2.2.2.2.2.2.1), .int (D2.2.2.2.2.2.2.2.2.1), .int (D2.2.2.2.2.2.2.2.2.2)]))], rowW cyI (A2 1) (A2 6) (20) (D2.1), rowW cyI (A2 2) (A2 7) (20) (D2.2.1), rowW cyI (A2 3) (A2 8) (6) (D2.2.2.1), rowW cyI (A2 4) (A2 9) (20) (D2.2.2.2.1), rowW cyI (A2 5) (A2 10) (20) (D2.2.2.2.2.1)]) H := hP
  have hD : va_D A9 (cat [[(A 0, .inr (1, [.ref (A 1), .ref (A 2), .ref (A 3), .ref (A 4), .ref (A 5), .int (nI (D2.2.2.2.2.2.1)), .int (D.2.2.2.2.2.2.1), .int (D.2.2.2.2.2.2.2.1), .int (D.2.2.2.2.2.2.2.2.1), .int (D.2.2.2.2.2.2.2.2.2)]))], rowW cyI (A 1) (A 6) (20) (rowCopy D.1 D2.1 20), rowW cyI (A 2) (A 7) (20) (rowCopy D.2.1 D2.2.1 20), rowW cyI (A 3) (A 8) (6) (rowCopy D.2.2.1 D2.2.2.1 6), rowW cyI (A 4) (A 9) (20) (rowCopy D.2.2.2.1 D2.2.2.2.1 20), rowW cyI (A 5) (A 10) (20) (rowCopy D.2.2.2.2.1 D2.2.2.2.2.1 20), [(A2 0, .inr (1, [.ref (A2 1), .ref (A2 2), .ref (A2 3), .ref (A2 4), .ref (A2 5), .int (nI (D2.2.2.2.2.2.1)), .int (D2.2.2.2.2.2.2.1), .int (D2.2.2.2.2.2.2.2.1), .int (D2.2.2.2.2.2.2.2.2.1), .int (D2.2.2.2.2.2.2.2.2.2)]))], rowW cyI (A2 1) (A2 6) (20) (D2.1), rowW cyI (A2 2) (A2 7) (20) (D2.2.1), rowW cyI (A2 3) (A2 8) (6) (D2.2.2.1), rowW cyI (A2 4) (A2 9) (20) (D2.2.2.2.1), rowW cyI (A2 5) (A2 10) (20) (D2.2.2.2.2.1)]) := hD
  refine lv_aload_n hx hb dX1_copyFrom_63 rfl (lv_at hl 0 rfl) ?_
  refine lv_aload_n hx hb dX1_copyFrom_64 rfl (lv_at hl 1 rfl) ?_
  refine va_get (v := .int (D2.2.2.2.2.2.2.1)) (C := RX1) (T := TX1) (N := 10) hx hb hts hinX1 hown hK hP 11 rfl rfl 6 (by decide) hf36 (fun _ h9 => h9) rfl dX1_copyFrom_65 ?_
  refine va_put (v := .int (D2.2.2.2.2.2.2.1)) (ty := .int) (C := RX1) (T := TX1) (N := 10) hx hb hts hinX1 tyX1 tyX1_ok nmX1 hown hK hP hD hS 0 rfl rfl 6 (by decide) hf36 (fun _ h9 => h9) rfl (by first | rfl | decide +kernel) rfl rfl (Nat.le_of_ble_eq_true rfl) dX1_copyFrom_68 (fun H locs hP hD hS => ?_)
  have hP : va_P G vwCl (cat [[(A 0, .inr (1, [.ref (A 1), .ref (A 2), .ref (A 3), .ref (A 4), .ref (A 5), .int (nI (D2.2.2.2.2.2.1)), .int (D2.2.2.2.2.2.2.1), .int (D.2.2.2.2.2.2.2.1), .int (D.2.2.2.2.2.2.2.2.1), .int (D.2.2.2.2.2.2.2.2.2)]))], rowW cyI (A 1) (A 6) (20) (rowCopy D.1 D2.1 20), rowW cyI (A 2) (A 7) (20) (rowCopy D.2.1 D2.2.1 20), rowW cyI (A 3) (A 8) (6) (rowCopy D.2.2.1 D2.2.2.1 6), rowW cyI (A 4) (A 9) (20) (rowCopy D.2.2.2.1 D2.2.2.2.1 20), rowW cyI (A 5) (A 10) (20) (rowCopy D.2.2.2.2.1 D2.2.2.2.2.1 20), [(A2 0, .inr (1, [.ref (A2 1), .ref (A2 2), .ref (A2 3), .ref (A2 4), .ref (A2 5), .int (nI (D2.2.2.2.2.2.1)), .int (D2.2.2.2.2.2.2.1), .int (D2.2.2.2.2.2.2.2.1), .int (D2.2.2.2.2.2.2.2.2.1), .int (D2.2.2.2.2.2.2.2.2.2)]))], rowW cyI (A2 1) (A2 6) (20) (D2.1), rowW cyI (A2 2) (A2 7) (20) (D2.2.1), rowW cyI (A2 3) (A2 8) (6) (D2.2.2.1), rowW cyI (A2 4) (A2 9) (20) (D2.2.2.2.1), rowW cyI (A2 5) (A2 10) (20) (D2.2.2.2.2.1)]) H := hP
  have hD : va_D A9 (cat [[(A 0, .inr (1, [.ref (A 1), .ref (A 2), .ref (A 3), .ref (A 4), .ref (A 5), .int (nI (D2.2.2.2.2.2.1)), .int (D2.2.2.2.2.2.2.1), .int (D.2.2.2.2.2.2.2.1), .int (D.2.2.2.2.2.2.2.2.1), .int (D.2.2.2.2.2.2.2.2.2)]))], rowW cyI (A 1) (A 6) (20) (rowCopy D.1 D2.1 20), rowW cyI (A 2) (A 7) (20) (rowCopy D.2.1 D2.2.1 20), rowW cyI (A 3) (A 8) (6) (rowCopy D.2.2.1 D2.2.2.1 6), rowW cyI (A 4) (A 9) (20) (rowCopy D.2.2.2.1 D2.2.2.2.1 20), rowW cyI (A 5) (A 10) (20) (rowCopy D.2.2.2.2.1 D2.2.2.2.2.1 20), [(A2 0, .inr (1, [.ref (A2 1), .ref (A2 2), .ref (A2 3), .ref (A2 4), .ref (A2 5), .int (nI (D2.2.2.2.2.2.1)), .int (D2.2.2.2.2.2.2.1), .int (D2.2.2.2.2.2.2.2.1), .int (D2.2.2.2.2.2.2.2.2.1), .int (D2.2.2.2.2.2.2.2.2.2)]))], rowW cyI (A2 1) (A2 6) (20) (D2.1), rowW cyI (A2 2) (A2 7) (20) (D2.2.1), rowW cyI (A2 3) (A2 8) (6) (D2.2.2.1), rowW cyI (A2 4) (A2 9) (20) (D2.2.2.2.1), rowW cyI (A2 5) (A2 10) (20) (D2.2.2.2.2.1)]) := hD
  refine lv_aload_n hx hb dX1_copyFrom_71 rfl (lv_at hl 0 rfl) ?_
  refine lv_aload_n hx hb dX1_copyFrom_72 rfl (lv_at hl 1 rfl) ?_
  refine va_get (v := .int (D2.2.2.2.2.2.2.2.1)) (C := RX1) (T := TX1) (N := 10) hx hb hts hinX1 hown hK hP 11 rfl rfl 7 (by decide) hf39 (fun _ h9 => h9) rfl dX1_copyFrom_73 ?_
  refine va_put (v := .int (D2.2.2.2.2.2.2.2.1)) (ty := .int) (C := RX1) (T := TX1) (N := 10) hx hb hts hinX1 tyX1 tyX1_ok nmX1 hown hK hP hD hS 0 rfl rfl 7 (by decide) hf39 (fun _ h9 => h9) rfl (by first | rfl | decide +kernel) rfl rfl (Nat.le_of_ble_eq_true rfl) dX1_copyFrom_76 (fun H locs hP hD hS => ?_)
  have hP : va_P G vwCl (cat [[(A 0, .inr (1, [.ref (A 1), .ref (A 2), .ref (A 3), .ref (A 4), .ref (A 5), .int (nI (D2.2.2.2.2.2.1)), .int (D2.2.2.2.2.2.2.1), .int (D2.2.2.2.2.2.2.2.1), .int (D.2.2.2.2.2.2.2.2.1), .int (D.2.2.2.2.2.2.2.2.2)]))], rowW cyI (A 1) (A 6) (20) (rowCopy D.1 D2.1 20), rowW cyI (A 2) (A 7) (20) (rowCopy D.2.1 D2.2.1 20), rowW cyI (A 3) (A 8) (6) (rowCopy D.2.2.1 D2.2.2.1 6), rowW cyI (A 4) (A 9) (20) (rowCopy D.2.2.2.1 D2.2.2.2.1 20), rowW cyI (A 5) (A 10) (20) (rowCopy D.2.2.2.2.1 D2.2.2.2.2.1 20), [(A2 0, .inr (1, [.ref (A2 1), .ref (A2 2), .ref (A2 3), .ref (A2 4), .ref (A2 5), .int (nI (D2.2.2.2.2.2.1)), .int (D2.2.2.2.2.2.2.1), .int (D2.2.2.2.2.2.2.2.1), .int (D2.2.2.2.2.2.2.2.2.1), .int (D2.2.2.2.2.2.2.2.2.2)]))], rowW cyI (A2 1) (A2 6) (20) (D2.1), rowW cyI (A2 2) (A2 7) (20) (D2.2.1), rowW cyI (A2 3) (A2 8) (6) (D2.2.2.1), rowW cyI (A2 4) (A2 9) (20) (D2.2.2.2.1), rowW cyI (A2 5) (A2 10) (20) (D2.2.2.2.2.1)]) H := hP
  have hD : va_D A9 (cat [[(A 0, .inr (1, [.ref (A 1), .ref (A 2), .ref (A 3), .ref (A 4), .ref (A 5), .int (nI (D2.2.2.2.2.2.1)), .int (D2.2.2.2.2.2.2.1), .int (D2.2.2.2.2.2.2.2.1), .int (D.2.2.2.2.2.2.2.2.1), .int (D.2.2.2.2.2.2.2.2.2)]))], rowW cyI (A 1) (A 6) (20) (rowCopy D.1 D2.1 20), rowW cyI (A 2) (A 7) (20) (rowCopy D.2.1 D2.2.1 20), rowW cyI (A 3) (A 8) (6) (rowCopy D.2.2.1 D2.2.2.1 6), rowW cyI (A 4) (A 9) (20) (rowCopy D.2.2.2.1 D2.2.2.2.1 20), rowW cyI (A 5) (A 10) (20) (rowCopy D.2.2.2.2.1 D2.2.2.2.2.1 20), [(A2 0, .inr (1, [.ref (A2 1), .ref (A2 2), .ref (A2 3), .ref (A2 4), .ref (A2 5), .int (nI (D2.2.2.2.2.2.1)), .int (D2.2.2.2.2.2.2.1), .int (D2.2.2.2.2.2.2.2.1), .int (D2.2.2.2.2.2.2.2.2.1), .int (D2.2.2.2.2.2.2.2.2.2)]))], rowW cyI (A2 1) (A2 6) (20) (D2.1), rowW cyI (A2 2) (A2 7) (20) (D2.2.1), rowW cyI (A2 3) (A2 8) (6) (D2.2.2.1), rowW cyI (A2 4) (A2 9) (20) (D2.2.2.2.1), rowW cyI (A2 5) (A2 10) (20) (D2.2.2.2.2.1)]) := hD
  refine lv_aload_n hx hb dX1_copyFrom_79 rfl (lv_at hl 0 rfl) ?_
  refine lv_aload_n hx hb dX1_copyFrom_80 rfl (lv_at hl 1 rfl) ?_
  refine va_get (v := .int (D2.2.2.2.2.2.2.2.2.1)) (C := RX1) (T := TX1) (N := 10) hx hb hts hinX1 hown hK hP 11 rfl rfl 8 (by decide) hf42 (fun _ h9 => h9) rfl dX1_copyFrom_81 ?_
  refine va_put (v := .int (D2.2.2.2.2.2.2.2.2.1)) (ty := .int) (C := RX1) (T := TX1) (N := 10) hx hb hts hinX1 tyX1 tyX1_ok nmX1 hown hK hP hD hS 0 rfl rfl 8 (by decide) hf42 (fun _ h9 => h9) rfl (by first | rfl | decide +kernel) rfl rfl (Nat.le_of_ble_eq_true rfl) dX1_copyFrom_84 (fun H locs hP hD hS => ?_)
  have hP : va_P G vwCl (cat [[(A 0, .inr (1, [.ref (A 1), .ref (A 2), .ref (A 3), .ref (A 4), .ref (A 5), .int (nI (D2.2.2.2.2.2.1)), .int (D2.2.2.2.2.2.2.1), .int (D2.2.2.2.2.2.2.2.1), .int (D2.2.2.2.2.2.2.2.2.1), .int (D.2.2.2.2.2.2.2.2.2)]))], rowW cyI (A 1) (A 6) (20) (rowCopy D.1 D2.1 20), rowW cyI (A 2) (A 7) (20) (rowCopy D.2.1 D2.2.1 20), rowW cyI (A 3) (A 8) (6) (rowCopy D.2.2.1 D2.2.2.1 6), rowW cyI (A 4) (A 9) (20) (rowCopy D.2.2.2.1 D2.2.2.2.1 20), rowW cyI (A 5) (A 10) (20) (rowCopy D.2.2.2.2.1 D2.2.2.2.2.1 20), [(A2 0, .inr (1, [.ref (A2 1), .ref (A2 2), .ref (A2 3), .ref (A2 4), .ref (A2 5), .int (nI (D2.2.2.2.2.2.1)), .int (D2.2.2.2.2.2.2.1), .int (D2.2.2.2.2.2.2.2.1), .int (D2.2.2.2.2.2.2.2.2.1), .int (D2.2.2.2.2.2.2.2.2.2)]))], rowW cyI (A2 1) (A2 6) (20) (D2.1), rowW cyI (A2 2) (A2 7) (20) (D2.2.1), rowW cyI (A2 3) (A2 8) (6) (D2.2.2.1), rowW cyI (A2 4) (A2 9) (20) (D2.2.2.2.1), rowW cyI (A2 5) (A2 10) (20) (D2.2.2.2.2.1)]) H := hP
  have hD : va_D A9 (cat [[(A 0, .inr (1, [.ref (A 1), .ref (A 2), .ref (A 3), .ref (A 4), .ref (A 5), .int (nI (D2.2.2.2.2.2.1)), .int (D2.2.2.2.2.2.2.1), .int (D2.2.2.2.2.2.2.2.1), .int (D2.2.2.2.2.2.2.2.2.1), .int (D.2.2.2.2.2.2.2.2.2)]))], rowW cyI (A 1) (A 6) (20) (rowCopy D.1 D2.1 20), rowW cyI (A 2) (A 7) (20) (rowCopy D.2.1 D2.2.1 20), rowW cyI (A 3) (A 8) (6) (rowCopy D.2.2.1 D2.2.2.1 6), rowW cyI (A 4) (A 9) (20) (rowCopy D.2.2.2.1 D2.2.2.2.1 20), rowW cyI (A 5) (A 10) (20) (rowCopy D.2.2.2.2.1 D2.2.2.2.2.1 20), [(A2 0, .inr (1, [.ref (A2 1), .ref (A2 2), .ref (A2 3), .ref (A2 4), .ref (A2 5), .int (nI (D2.2.2.2.2.2.1)), .int (D2.2.2.2.2.2.2.1), .int (D2.2.2.2.2.2.2.2.1), .int (D2.2.2.2.2.2.2.2.2.1), .int (D2.2.2.2.2.2.2.2.2.2)]))], rowW cyI (A2 1) (A2 6) (20) (D2.1), rowW cyI (A2 2) (A2 7) (20) (D2.2.1), rowW cyI (A2 3) (A2 8) (6) (D2.2.2.1), rowW cyI (A2 4) (A2 9) (20) (D2.2.2.2.1), rowW cyI (A2 5) (A2 10) (20) (D2.2.2.2.2.1)]) := hD
  refine lv_aload_n hx hb dX1_copyFrom_87 rfl (lv_at hl 0 rfl) ?_
  refine lv_aload_n hx hb dX1_copyFrom_88 rfl (lv_at hl 1 rfl) ?_
  refine va_get (v := .int (D2.2.2.2.2.2.2.2.2.2)) (C := RX1) (T := TX1) (N := 10) hx hb hts hinX1 hown hK hP 11 rfl rfl 9 (by decide) hf45 (fun _ h9 => h9) rfl dX1_copyFrom_89 ?_
  refine va_put (v := .int (D2.2.2.2.2.2.2.2.2.2)) (ty := .int) (C := RX1) (T := TX1) (N := 10) hx hb hts hinX1 tyX1 tyX1_ok nmX1 hown hK hP hD hS 0 rfl rfl 9 (by decide) hf45 (fun _ h9 => h9) rfl (by first | rfl | decide +kernel) rfl rfl (Nat.le_of_ble_eq_true rfl) dX1_copyFrom_92 (fun H locs hP hD hS => ?_)
  have hP : va_P G vwCl (cat [[(A 0, .inr (1, [.ref (A 1), .ref (A 2), .ref (A 3), .ref (A 4), .ref (A 5), .int (nI (D2.2.2.2.2.2.1)), .int (D2.2.2.2.2.2.2.1), .int (D2.2.2.2.2.2.2.2.1), .int (D2.2.2.2.2.2.2.2.2.1), .int (D2.2.2.2.2.2.2.2.2.2)]))], rowW cyI (A 1) (A 6) (20) (rowCopy D.1 D2.1 20), rowW cyI (A 2) (A 7) (20) (rowCopy D.2.1 D2.2.1 20), rowW cyI (A 3) (A 8) (6) (rowCopy D.2.2.1 D2.2.2.1 6), rowW cyI (A 4) (A 9) (20) (rowCopy D.2.2.2.1 D2.2.2.2.1 20), rowW cyI (A 5) (A 10) (20) (rowCopy D.2.2.2.2.1 D2.2.2.2.2.1 20), [(A2 0, .inr (1, [.ref (A2 1), .ref (A2 2), .ref (A2 3), .ref (A2 4), .ref (A2 5), .int (nI (D2.2.2.2.2.2.1)), .int (D2.2.2.2.2.2.2.1), .int (D2.2.2.2.2.2.2.2.1), .int (D2.2.2.2.2.2.2.2.2.1), .int (D2.2.2.2.2.2.2.2.2.2)]))], rowW cyI (A2 1) (A2 6) (20) (D2.1), rowW cyI (A2 2) (A2 7) (20) (D2.2.1), rowW cyI (A2 3) (A2 8) (6) (D2.2.2.1), rowW cyI (A2 4) (A2 9) (20) (D2.2.2.2.1), rowW cyI (A2 5) (A2 10) (20) (D2.2.2.2.2.1)]) H := hP
  have hD : va_D A9 (cat [[(A 0, .inr (1, [.ref (A 1), .ref (A 2), .ref (A 3), .ref (A 4), .ref (A 5), .int (nI (D2.2.2.2.2.2.1)), .int (D2.2.2.2.2.2.2.1), .int (D2.2.2.2.2.2.2.2.1), .int (D2.2.2.2.2.2.2.2.2.1), .int (D2.2.2.2.2.2.2.2.2.2)]))], rowW cyI (A 1) (A 6) (20) (rowCopy D.1 D2.1 20), rowW cyI (A 2) (A 7) (20) (rowCopy D.2.1 D2.2.1 20), rowW cyI (A 3) (A 8) (6) (rowCopy D.2.2.1 D2.2.2.1 6), rowW cyI (A 4) (A 9) (20) (rowCopy D.2.2.2.1 D2.2.2.2.1 20), rowW cyI (A 5) (A 10) (20) (rowCopy D.2.2.2.2.1 D2.2.2.2.2.1 20), [(A2 0, .inr (1, [.ref (A2 1), .ref (A2 2), .ref (A2 3), .ref (A2 4), .ref (A2 5), .int (nI (D2.2.2.2.2.2.1)), .int (D2.2.2.2.2.2.2.1), .int (D2.2.2.2.2.2.2.2.1), .int (D2.2.2.2.2.2.2.2.2.1), .int (D2.2.2.2.2.2.2.2.2.2)]))], rowW cyI (A2 1) (A2 6) (20) (D2.1), rowW cyI (A2 2) (A2 7) (20) (D2.2.1), rowW cyI (A2 3) (A2 8) (6) (D2.2.2.1), rowW cyI (A2 4) (A2 9) (20) (D2.2.2.2.1), rowW cyI (A2 5) (A2 10) (20) (D2.2.2.2.2.1)]) := hD
  have hP : va_P G vwCl (cat [dyW cyI A (dCopy D D2), dyW cyI A2 D2]) H := hP
  have hD : va_D A9 (cat [dyW cyI A (dCopy D D2), dyW cyI A2 D2]) := hD
  exact end_v hx hb hr hlocks hK hP hD hS dX1_copyFrom_95
abbrev rm_X1_beginHandover : Room := { frames := 2, cells := 0, slots := 0, locals := 43 }
set_option maxHeartbeats 4000000 in
set_option maxRecDepth 100000 in
theorem c_X1_beginHandover (l : Launch) (G : va_G) (cyI cyO : ClassId) (A A2 : Nat → Nat) (D : DS) (S : SS) (hn : D.2.2.2.2.2.1 ≤ 20) : CV l G (TY cyI cyO) yX1_beginHandover wsX1_beginHandover rm_X1_beginHandover [.ref (A 0), .ref (A2 0)] [dyW cyI A D, shW cyI A2 S] [dyW cyI A ((D.1, D.2.1, D.2.2.1, rowCopy D.2.2.2.1 S.1 D.2.2.2.2.2.1, rowCopy D.2.2.2.2.1 D.2.1 20, D.2.2.2.2.2.1, 1, D.2.2.2.2.2.2.2.1, D.2.2.2.2.2.2.2.2.1, D.2.2.2.2.2.2.2.2.2)), shW cyI A2 S] := by
  refine wk_V (cc := cX1_beginHandover) (maxL := 3) (ret := none) (by decide) rfl (Nat.le_of_ble_eq_true rfl) ?_
  intro p9 e9 s9 m9 b9 t9 c9 A9 ls hx hb hr hts hown hlocks hml hK hA hD hP hl hS hnm
  have hl : lv_has ls 3 [(0, .ref (A 0)), (1, .ref (A2 0))] := hl
  have hinX1 : ∀ w ∈ wsX10, w ∈ wsX1_beginHandover := by decide +kernel
  have hf20 := hts (.fieldLink RX1 20 "DoorstepRounds$Dairy" "owners" "LDoorstepRounds$Row;") (by decide +kernel)
  have hf26 := hts (.fieldLink RX1 26 "DoorstepRounds$Dairy" "newOwners" "LDoorstepRounds$Row;") (by decide +kernel)
  have hf29 := hts (.fieldLink RX1 29 "DoorstepRounds$Dairy" "oldOwners" "LDoorstepRounds$Row;") (by decide +kernel)
  have hf32 := hts (.fieldLink RX1 32 "DoorstepRounds$Dairy" "count" "I") (by decide +kernel)
  have hf36 := hts (.fieldLink RX1 36 "DoorstepRounds$Dairy" "step" "I") (by decide +kernel)
  have hP : va_P G vwCl (cat [[(A 0, .inr (1, [.ref (A 1), .ref (A 2), .ref (A 3), .ref (A 4), .ref (A 5), .int (nI (D.2.2.2.2.2.1)), .int (D.2.2.2.2.2.2.1), .int (D.2.2.2.2.2.2.2.1), .int (D.2.2.2.2.2.2.2.2.1), .int (D.2.2.2.2.2.2.2.2.2)]))], rowW cyI (A 1) (A 6) (20) (D.1), rowW cyI (A 2) (A 7) (20) (D.2.1), rowW cyI (A 3) (A 8) (6) (D.2.2.1), rowW cyI (A 4) (A 9) (20) (D.2.2.2.1), rowW cyI (A 5) (A 10) (20) (D.2.2.2.2.1), shW cyI A2 S]) s9.heap := hP
  have hD : va_D A9 (cat [[(A 0, .inr (1, [.ref (A 1), .ref (A 2), .ref (A 3), .ref (A 4), .ref (A 5), .int (nI (D.2.2.2.2.2.1)), .int (D.2.2.2.2.2.2.1), .int (D.2.2.2.2.2.2.2.1), .int (D.2.2.2.2.2.2.2.2.1), .int (D.2.2.2.2.2.2.2.2.2)]))], rowW cyI (A 1) (A 6) (20) (D.1), rowW cyI (A 2) (A 7) (20) (D.2.1), rowW cyI (A 3) (A 8) (6) (D.2.2.1), rowW cyI (A 4) (A 9) (20) (D.2.2.2.1), rowW cyI (A 5) (A 10) (20) (D.2.2.2.2.1), shW cyI A2 S]) := hD
  refine lv_iconst (v := (0 : Int32)) hx hb dX1_beginHandover_0 (by decide) ?_
  refine lv_istore_n (lv' := [(2, .int ((0 : Int32))), (0, .ref (A 0)), (1, .ref (A2 0))]) hx hb dX1_beginHandover_1 rfl hl (by decide) rfl (fun ls hl => ?_)
  refine W_loop (α := Nat) (I := fun a9 H locs ls => (a9 ≤ D.2.2.2.2.2.1) ∧ va_P G vwCl (cat [[(A 0, .inr (1, [.ref (A 1), .ref (A 2), .ref (A 3), .ref (A 4), .ref (A 5), .int (nI (D.2.2.2.2.2.1)), .int (D.2.2.2.2.2.2.1), .int (D.2.2.2.2.2.2.2.1), .int (D.2.2.2.2.2.2.2.2.1), .int (D.2.2.2.2.2.2.2.2.2)]))], rowW cyI (A 1) (A 6) (20) (D.1), rowW cyI (A 2) (A 7) (20) (D.2.1), rowW cyI (A 3) (A 8) (6) (D.2.2.1), rowW cyI (A 4) (A 9) (20) (itr a9 (fun j g => upd g j (S.1 j)) D.2.2.2.1), rowW cyI (A 5) (A 10) (20) (D.2.2.2.2.1), shW cyI A2 S]) H ∧ va_D A9 (cat [[(A 0, .inr (1, [.ref (A 1), .ref (A 2), .ref (A 3), .ref (A 4), .ref (A 5), .int (nI (D.2.2.2.2.2.1)), .int (D.2.2.2.2.2.2.1), .int (D.2.2.2.2.2.2.2.1), .int (D.2.2.2.2.2.2.2.2.1), .int (D.2.2.2.2.2.2.2.2.2)]))], rowW cyI (A 1) (A 6) (20) (D.1), rowW cyI (A 2) (A 7) (20) (D.2.1), rowW cyI (A 3) (A 8) (6) (D.2.2.1), rowW cyI (A 4) (A 9) (20) (itr a9 (fun j g => upd g j (S.1 j)) D.2.2.2.1), rowW cyI (A 5) (A 10) (20) (D.2.2.2.2.1), shW cyI A2 S]) ∧ va_S A9 s9.heap H locs ∧ lv_has ls 3 [(2, .int (nI (a9))), (0, .ref (A 0)), (1, .ref (A2 0))]) (μ := fun a9 => D.2.2.2.2.2.1 - a9) (st := fun a9 => []) ?_ (0) _ _ _ ⟨(show 0 ≤ D.2.2.2.2.2.1 from Nat.zero_le _), hP, hD, hS, lv_sub hl [0, 1, 2] rfl⟩
  intro a9 ih_2 H locs ls hI
  obtain ⟨i, ea9⟩ : ∃ z, z = a9 := ⟨_, rfl⟩
  subst ea9
  obtain ⟨hi9, hP9, hD9, hS9, hl9⟩ := hI
  have hi : i ≤ D.2.2.2.2.2.1 := hi9
  have hP : va_P G vwCl (cat [[(A 0, .inr (1, [.ref (A 1), .ref (A 2), .ref (A 3), .ref (A 4), .ref (A 5), .int (nI (D.2.2.2.2.2.1)), .int (D.2.2.2.2.2.2.1), .int (D.2.2.2.2.2.2.2.1), .int (D.2.2.2.2.2.2.2.2.1), .int (D.2.2.2.2.2.2.2.2.2)]))], rowW cyI (A 1) (A 6) (20) (D.1), rowW cyI (A 2) (A 7) (20) (D.2.1), rowW cyI (A 3) (A 8) (6) (D.2.2.1), rowW cyI (A 4) (A 9) (20) (itr i (fun j g => upd g j (S.1 j)) D.2.2.2.1), rowW cyI (A 5) (A 10) (20) (D.2.2.2.2.1), shW cyI A2 S]) H := hP9
  have hD : va_D A9 (cat [[(A 0, .inr (1, [.ref (A 1), .ref (A 2), .ref (A 3), .ref (A 4), .ref (A 5), .int (nI (D.2.2.2.2.2.1)), .int (D.2.2.2.2.2.2.1), .int (D.2.2.2.2.2.2.2.1), .int (D.2.2.2.2.2.2.2.2.1), .int (D.2.2.2.2.2.2.2.2.2)]))], rowW cyI (A 1) (A 6) (20) (D.1), rowW cyI (A 2) (A 7) (20) (D.2.1), rowW cyI (A 3) (A 8) (6) (D.2.2.1), rowW cyI (A 4) (A 9) (20) (itr i (fun j g => upd g j (S.1 j)) D.2.2.2.1), rowW cyI (A 5) (A 10) (20) (D.2.2.2.2.1), shW cyI A2 S]) := hD9
  have hS := hS9
  have hl : lv_has ls 3 [(2, .int (nI (i))), (0, .ref (A 0)), (1, .ref (A2 0))] := hl9
  clear hi9 hP9 hD9 hS9 hl9
  refine lv_iload_n hx hb dX1_beginHandover_2 rfl (lv_at hl 0 rfl) ?_
  refine lv_aload_n hx hb dX1_beginHandover_3 rfl (lv_at hl 1 rfl) ?_
  refine va_get (v := .int (nI (D.2.2.2.2.2.1))) (C := RX1) (T := TX1) (N := 10) hx hb hts hinX1 hown hK hP 0 rfl rfl 5 (by decide) hf32 (fun _ h9 => h9) rfl dX1_beginHandover_4 ?_
  refine lv_icmp_ge (tgt := 29) hx hb dX1_beginHandover_7 (by decide) (fun c_7 => ?_) (fun c_7 => ?_)
  · have c_7 : (D.2.2.2.2.2.1) ≤ (i) := (nI_leI (a := D.2.2.2.2.2.1) (b := i) (by omega) (by omega)).mp c_7
    obtain rfl : D.2.2.2.2.2.1 = i := by omega
    refine lv_aload_n hx hb dX1_beginHandover_29 rfl (lv_at hl 1 rfl) ?_
    refine va_get (v := .ref (A 5)) (C := RX1) (T := TX1) (N := 10) hx hb hts hinX1 hown hK hP 0 rfl rfl 4 (by decide) hf29 (fun _ h9 => h9) rfl dX1_beginHandover_30 ?_
    refine lv_aload_n hx hb dX1_beginHandover_33 rfl (lv_at hl 1 rfl) ?_
    refine va_get (v := .ref (A 2)) (C := RX1) (T := TX1) (N := 10) hx hb hts hinX1 hown hK hP 0 rfl rfl 1 (by decide) hf20 (fun _ h9 => h9) rfl dX1_beginHandover_34 ?_
    refine gVv (gs := [[(A 0, .inr (1, [.ref (A 1), .ref (A 2), .ref (A 3), .ref (A 4), .ref (A 5), .int (nI (D.2.2.2.2.2.1)), .int (D.2.2.2.2.2.2.1), .int (D.2.2.2.2.2.2.2.1), .int (D.2.2.2.2.2.2.2.2.1), .int (D.2.2.2.2.2.2.2.2.2)]))], rowW cyI (A 1) (A 6) (20) (D.1), rowW cyI (A 2) (A 7) (20) (D.2.1), rowW cyI (A 3) (A 8) (6) (D.2.2.1), rowW cyI (A 4) (A 9) (20) (itr D.2.2.2.2.2.1 (fun j g => upd g j (S.1 j)) D.2.2.2.1), rowW cyI (A 5) (A 10) (20) (D.2.2.2.2.1), shW cyI A2 S]) (As := [.ref (A 2)]) (rest := []) ⟨hx, hb, hml, hown, hts⟩ (c_X3_copyFrom l G cyI cyO (A 5) (A 10) 20 (A 2) (A 7) D.2.2.2.2.1 D.2.1 (by omega)) (cwV 1 hts gX1_beginHandover_X3_copyFrom rfl rfl rfl (by decide +kernel) ⟨Nat.le_of_ble_eq_true rfl, Nat.le_of_ble_eq_true rfl⟩) hK hP hD hS hA [5, 2] rfl rfl rfl 0 3 rfl rfl rfl hl.1 rfl (Nat.le_of_ble_eq_true rfl) dX1_beginHandover_37 ⟨Nat.le_refl _, Nat.le_refl _⟩ (fun H locs hP hD hS => ?_)
    have hP : va_P G vwCl (cat [[(A 0, .inr (1, [.ref (A 1), .ref (A 2), .ref (A 3), .ref (A 4), .ref (A 5), .int (nI (D.2.2.2.2.2.1)), .int (D.2.2.2.2.2.2.1), .int (D.2.2.2.2.2.2.2.1), .int (D.2.2.2.2.2.2.2.2.1), .int (D.2.2.2.2.2.2.2.2.2)]))], rowW cyI (A 1) (A 6) (20) (D.1), rowW cyI (A 2) (A 7) (20) (D.2.1), rowW cyI (A 3) (A 8) (6) (D.2.2.1), rowW cyI (A 4) (A 9) (20) (itr D.2.2.2.2.2.1 (fun j g => upd g j (S.1 j)) D.2.2.2.1), rowW cyI (A 5) (A 10) (20) (rowCopy D.2.2.2.2.1 D.2.1 20), shW cyI A2 S]) H := hP
    have hD : va_D A9 (cat [[(A 0, .inr (1, [.ref (A 1), .ref (A 2), .ref (A 3), .ref (A 4), .ref (A 5), .int (nI (D.2.2.2.2.2.1)), .int (D.2.2.2.2.2.2.1), .int (D.2.2.2.2.2.2.2.1), .int (D.2.2.2.2.2.2.2.2.1), .int (D.2.2.2.2.2.2.2.2.2)]))], rowW cyI (A 1) (A 6) (20) (D.1), rowW cyI (A 2) (A 7) (20) (D.2.1), rowW cyI (A 3) (A 8) (6) (D.2.2.1), rowW cyI (A 4) (A 9) (20) (itr D.2.2.2.2.2.1 (fun j g => upd g j (S.1 j)) D.2.2.2.1), rowW cyI (A 5) (A 10) (20) (rowCopy D.2.2.2.2.1 D.2.1 20), shW cyI A2 S]) := hD
    refine lv_aload_n hx hb dX1_beginHandover_40 rfl (lv_at hl 1 rfl) ?_
    refine lv_iconst (v := (1 : Int32)) hx hb dX1_beginHandover_41 (by decide) ?_
    refine va_put (v := .int ((1 : Int32))) (ty := .int) (C := RX1) (T := TX1) (N := 10) hx hb hts hinX1 tyX1 tyX1_ok nmX1 hown hK hP hD hS 0 rfl rfl 6 (by decide) hf36 (fun _ h9 => h9) rfl (by first | rfl | decide +kernel) rfl rfl (Nat.le_of_ble_eq_true rfl) dX1_beginHandover_42 (fun H locs hP hD hS => ?_)
    have hP : va_P G vwCl (cat [[(A 0, .inr (1, [.ref (A 1), .ref (A 2), .ref (A 3), .ref (A 4), .ref (A 5), .int (nI (D.2.2.2.2.2.1)), .int ((1 : Int32)), .int (D.2.2.2.2.2.2.2.1), .int (D.2.2.2.2.2.2.2.2.1), .int (D.2.2.2.2.2.2.2.2.2)]))], rowW cyI (A 1) (A 6) (20) (D.1), rowW cyI (A 2) (A 7) (20) (D.2.1), rowW cyI (A 3) (A 8) (6) (D.2.2.1), rowW cyI (A 4) (A 9) (20) (itr D.2.2.2.2.2.1 (fun j g => upd g j (S.1 j)) D.2.2.2.1), rowW cyI (A 5) (A 10) (20) (rowCopy D.2.2.2.2.1 D.2.1 20), shW cyI A2 S]) H := hP
    have hD : va_D A9 (cat [[(A 0, .inr (1, [.ref (A 1), .ref (A 2), .ref (A 3), .ref (A 4), .ref (A 5), .int (nI (D.2.2.2.2.2.1)), .int ((1 : Int32)), .int (D.2.2.2.2.2.2.2.1), .int (D.2.2.2.2.2.2.2.2.1), .int (D.2.2.2.2.2.2.2.2.2)]))], rowW cyI (A 1) (A 6) (20) (D.1), rowW cyI (A 2) (A 7) (20) (D.2.1), rowW cyI (A 3) (A 8) (6) (D.2.2.1), rowW cyI (A 4) (A 9) (20) (itr D.2.2.2.2.2.1 (fun j g => upd g j (S.1 j)) D.2.2.2.1), rowW cyI (A 5) (A 10) (20) (rowCopy D.2.2.2.2.1 D.2.1 20), shW cyI A2 S]) := hD
    have hP : va_P G vwCl (cat [dyW cyI A ((D.1, D.2.1, D.2.2.1, rowCopy D.2.2.2.1 S.1 D.2.2.2.2.2.1, rowCopy D.2.2.2.2.1 D.2.1 20, D.2.2.2.2.2.1, 1, D.2.2.2.2.2.2.2.1, D.2.2.2.2.2.2.2.2.1, D.2.2.2.2.2.2.2.2.2)), shW cyI A2 S]) H := hP
    have hD : va_D A9 (cat [dyW cyI A ((D.1, D.2.1, D.2.2.1, rowCopy D.2.2.2.1 S.1 D.2.2.2.2.2.1, rowCopy D.2.2.2.2.1 D.2.1 20, D.2.2.2.2.2.1, 1, D.2.2.2.2.2.2.2.1, D.2.2.2.2.2.2.2.2.1, D.2.2.2.2.2.2.2.2.2)), shW cyI A2 S]) := hD
    exact end_v hx hb hr hlocks hK hP hD hS dX1_beginHandover_45
  · have c_7 : ¬ (D.2.2.2.2.2.1) ≤ (i) := fun h9 => c_7 ((nI_leI (a := D.2.2.2.2.2.1) (b := i) (by omega) (by omega)).mpr h9)
    refine lv_aload_n hx hb dX1_beginHandover_10 rfl (lv_at hl 1 rfl) ?_
    refine va_get (v := .ref (A 4)) (C := RX1) (T := TX1) (N := 10) hx hb hts hinX1 hown hK hP 0 rfl rfl 3 (by decide) hf26 (fun _ h9 => h9) rfl dX1_beginHandover_11 ?_
    refine lv_iload_n hx hb dX1_beginHandover_14 rfl (lv_at hl 0 rfl) ?_
    refine lv_aload_n hx hb dX1_beginHandover_15 rfl (lv_at hl 2 rfl) ?_
    refine lv_iload_n hx hb dX1_beginHandover_16 rfl (lv_at hl 0 rfl) ?_
    refine gVi (gs := [[(A 0, .inr (1, [.ref (A 1), .ref (A 2), .ref (A 3), .ref (A 4), .ref (A 5), .int (nI (D.2.2.2.2.2.1)), .int (D.2.2.2.2.2.2.1), .int (D.2.2.2.2.2.2.2.1), .int (D.2.2.2.2.2.2.2.2.1), .int (D.2.2.2.2.2.2.2.2.2)]))], rowW cyI (A 1) (A 6) (20) (D.1), rowW cyI (A 2) (A 7) (20) (D.2.1), rowW cyI (A 3) (A 8) (6) (D.2.2.1), rowW cyI (A 4) (A 9) (20) (itr i (fun j g => upd g j (S.1 j)) D.2.2.2.1), rowW cyI (A 5) (A 10) (20) (D.2.2.2.2.1), shW cyI A2 S]) (As := [.int (nI (i))]) (rest := [.int (nI (i)), .ref (A 4)]) ⟨hx, hb, hml, hown, hts⟩ (c_X4_ownerInPlan l G cyI cyO A2 S i (by omega)) (cwV 1 hts gX1_beginHandover_X4_ownerInPlan rfl rfl rfl (by decide +kernel) ⟨Nat.le_of_ble_eq_true rfl, Nat.le_of_ble_eq_true rfl⟩) hK hP hD hS hA [6] rfl rfl rfl 0 4 rfl rfl rfl hl.1 rfl (Nat.le_of_ble_eq_true rfl) dX1_beginHandover_17 ⟨Nat.le_refl _, Nat.le_refl _⟩ (fun H locs hP hD hS => ?_)
    have hP : va_P G vwCl (cat [[(A 0, .inr (1, [.ref (A 1), .ref (A 2), .ref (A 3), .ref (A 4), .ref (A 5), .int (nI (D.2.2.2.2.2.1)), .int (D.2.2.2.2.2.2.1), .int (D.2.2.2.2.2.2.2.1), .int (D.2.2.2.2.2.2.2.2.1), .int (D.2.2.2.2.2.2.2.2.2)]))], rowW cyI (A 1) (A 6) (20) (D.1), rowW cyI (A 2) (A 7) (20) (D.2.1), rowW cyI (A 3) (A 8) (6) (D.2.2.1), rowW cyI (A 4) (A 9) (20) (itr i (fun j g => upd g j (S.1 j)) D.2.2.2.1), rowW cyI (A 5) (A 10) (20) (D.2.2.2.2.1), shW cyI A2 S]) H := hP
    have hD : va_D A9 (cat [[(A 0, .inr (1, [.ref (A 1), .ref (A 2), .ref (A 3), .ref (A 4), .ref (A 5), .int (nI (D.2.2.2.2.2.1)), .int (D.2.2.2.2.2.2.1), .int (D.2.2.2.2.2.2.2.1), .int (D.2.2.2.2.2.2.2.2.1), .int (D.2.2.2.2.2.2.2.2.2)]))], rowW cyI (A 1) (A 6) (20) (D.1), rowW cyI (A 2) (A 7) (20) (D.2.1), rowW cyI (A 3) (A 8) (6) (D.2.2.1), rowW cyI (A 4) (A 9) (20) (itr i (fun j g => upd g j (S.1 j)) D.2.2.2.1), rowW cyI (A 5) (A 10) (20) (D.2.2.2.2.1), shW cyI A2 S]) := hD
    refine gVv (gs := [[(A 0, .inr (1, [.ref (A 1), .ref (A 2), .ref (A 3), .ref (A 4), .ref (A 5), .int (nI (D.2.2.2.2.2.1)), .int (D.2.2.2.2.2.2.1), .int (D.2.2.2.2.2.2.2.1), .int (D.2.2.2.2.2.2.2.2.1), .int (D.2.2.2.2.2.2.2.2.2)]))], rowW cyI (A 1) (A 6) (20) (D.1), rowW cyI (A 2) (A 7) (20) (D.2.1), rowW cyI (A 3) (A 8) (6) (D.2.2.1), rowW cyI (A 4) (A 9) (20) (itr i (fun j g => upd g j (S.1 j)) D.2.2.2.1), rowW cyI (A 5) (A 10) (20) (D.2.2.2.2.1), shW cyI A2 S]) (As := [.int (nI (i)), .int (S.1 i)]) (rest := []) ⟨hx, hb, hml, hown, hts⟩ (c_X3_put l G cyI cyO (A 4) (A 9) 20 (itr i (fun j g => upd g j (S.1 j)) D.2.2.2.1) (nI (i)) (S.1 i) (by omega)) (cwV 2 hts gX1_beginHandover_X3_put rfl rfl rfl (by decide +kernel) ⟨Nat.le_of_ble_eq_true rfl, Nat.le_of_ble_eq_true rfl⟩) hK hP hD hS hA [4] rfl rfl rfl 0 3 rfl rfl rfl hl.1 rfl (Nat.le_of_ble_eq_true rfl) dX1_beginHandover_20 ⟨Nat.le_refl _, Nat.le_refl _⟩ (fun H locs hP hD hS => ?_)
    have hP : va_P G vwCl (cat [[(A 0, .inr (1, [.ref (A 1), .ref (A 2), .ref (A 3), .ref (A 4), .ref (A 5), .int (nI (D.2.2.2.2.2.1)), .int (D.2.2.2.2.2.2.1), .int (D.2.2.2.2.2.2.2.1), .int (D.2.2.2.2.2.2.2.2.1), .int (D.2.2.2.2.2.2.2.2.2)]))], rowW cyI (A 1) (A 6) (20) (D.1), rowW cyI (A 2) (A 7) (20) (D.2.1), rowW cyI (A 3) (A 8) (6) (D.2.2.1), rowW cyI (A 4) (A 9) (20) (rowPut (itr i (fun j g => upd g j (S.1 j)) D.2.2.2.1) 20 (nI (i)) (S.1 i)), rowW cyI (A 5) (A 10) (20) (D.2.2.2.2.1), shW cyI A2 S]) H := hP
    have hD : va_D A9 (cat [[(A 0, .inr (1, [.ref (A 1), .ref (A 2), .ref (A 3), .ref (A 4), .ref (A 5), .int (nI (D.2.2.2.2.2.1)), .int (D.2.2.2.2.2.2.1), .int (D.2.2.2.2.2.2.2.1), .int (D.2.2.2.2.2.2.2.2.1), .int (D.2.2.2.2.2.2.2.2.2)]))], rowW cyI (A 1) (A 6) (20) (D.1), rowW cyI (A 2) (A 7) (20) (D.2.1), rowW cyI (A 3) (A 8) (6) (D.2.2.1), rowW cyI (A 4) (A 9) (20) (rowPut (itr i (fun j g => upd g j (S.1 j)) D.2.2.2.1) 20 (nI (i)) (S.1 i)), rowW cyI (A 5) (A 10) (20) (D.2.2.2.2.1), shW cyI A2 S]) := hD
    rw [rowPut_in (by omega) (by omega)] at hP hD
    have hP : va_P G vwCl (cat [[(A 0, .inr (1, [.ref (A 1), .ref (A 2), .ref (A 3), .ref (A 4), .ref (A 5), .int (nI (D.2.2.2.2.2.1)), .int (D.2.2.2.2.2.2.1), .int (D.2.2.2.2.2.2.2.1), .int (D.2.2.2.2.2.2.2.2.1), .int (D.2.2.2.2.2.2.2.2.2)]))], rowW cyI (A 1) (A 6) (20) (D.1), rowW cyI (A 2) (A 7) (20) (D.2.1), rowW cyI (A 3) (A 8) (6) (D.2.2.1), rowW cyI (A 4) (A 9) (20) (upd (itr i (fun j g => upd g j (S.1 j)) D.2.2.2.1) i (S.1 i)), rowW cyI (A 5) (A 10) (20) (D.2.2.2.2.1), shW cyI A2 S]) H := hP
    have hD : va_D A9 (cat [[(A 0, .inr (1, [.ref (A 1), .ref (A 2), .ref (A 3), .ref (A 4), .ref (A 5), .int (nI (D.2.2.2.2.2.1)), .int (D.2.2.2.2.2.2.1), .int (D.2.2.2.2.2.2.2.1), .int (D.2.2.2.2.2.2.2.2.1), .int (D.2.2.2.2.2.2.2.2.2)]))], rowW cyI (A 1) (A 6) (20) (D.1), rowW cyI (A 2) (A 7) (20) (D.2.1), rowW cyI (A 3) (A 8) (6) (D.2.2.1), rowW cyI (A 4) (A 9) (20) (upd (itr i (fun j g => upd g j (S.1 j)) D.2.2.2.1) i (S.1 i)), rowW cyI (A 5) (A 10) (20) (D.2.2.2.2.1), shW cyI A2 S]) := hD
    refine lv_iinc (v := nI (i + 1)) (lv' := [(2, .int (nI (i + 1))), (0, .ref (A 0)), (1, .ref (A2 0))]) hx hb dX1_beginHandover_23 hl (k := 0) rfl (nI_add _ _) (by decide) rfl (fun ls hl => ?_)
    refine lv_goto (tgt := 2) hx hb dX1_beginHandover_26 (by decide) ?_
    exact ih_2 (i + 1) (by show (D.2.2.2.2.2.1 - (i + 1)) < (D.2.2.2.2.2.1 - i); omega) _ _ _ ⟨(show (i + 1) ≤ D.2.2.2.2.2.1 from by omega), hP, hD, hS, lv_sub hl [0, 1, 2] rfl⟩
abbrev rm_X1_giveUp : Room := { frames := 1, cells := 0, slots := 0, locals := 22 }
set_option maxHeartbeats 4000000 in
set_option maxRecDepth 100000 in
theorem c_X1_giveUp (l : Launch) (G : va_G) (cyI cyO : ClassId) (A : Nat → Nat) (D : DS) (hn : D.2.2.2.2.2.1 ≤ 20) : CI l G (TY cyI cyO) yX1_giveUp wsX1_giveUp rm_X1_giveUp [.ref (A 0)] [dyW cyI A D] (nI ((guAll D.2.2.2.1 D.2.1 D.2.2.2.2.2.1).2)) [dyW cyI A ((D.1, (guAll D.2.2.2.1 D.2.1 D.2.2.2.2.2.1).1, D.2.2.1, D.2.2.2.1, D.2.2.2.2.1, D.2.2.2.2.2.1, 2, D.2.2.2.2.2.2.2.1, D.2.2.2.2.2.2.2.2.1, D.2.2.2.2.2.2.2.2.2))] := by
  refine wk_I (cc := cX1_giveUp) (maxL := 4) (ret := (some .int)) (by decide) rfl (Nat.le_of_ble_eq_true rfl) ?_
  intro p9 e9 s9 m9 b9 t9 c9 A9 ls hx hb hr hts hown hlocks hml hK hA hD hP hl hS hnm
  have hl : lv_has ls 4 [(0, .ref (A 0))] := hl
  have hinX1 : ∀ w ∈ wsX10, w ∈ wsX1_giveUp := by decide +kernel
  have hf20 := hts (.fieldLink RX1 20 "DoorstepRounds$Dairy" "owners" "LDoorstepRounds$Row;") (by decide +kernel)
  have hf26 := hts (.fieldLink RX1 26 "DoorstepRounds$Dairy" "newOwners" "LDoorstepRounds$Row;") (by decide +kernel)
  have hf32 := hts (.fieldLink RX1 32 "DoorstepRounds$Dairy" "count" "I") (by decide +kernel)
  have hf36 := hts (.fieldLink RX1 36 "DoorstepRounds$Dairy" "step" "I") (by decide +kernel)
  have hP : va_P G vwCl (cat [[(A 0, .inr (1, [.ref (A 1), .ref (A 2), .ref (A 3), .ref (A 4), .ref (A 5), .int (nI (D.2.2.2.2.2.1)), .int (D.2.2.2.2.2.2.1), .int (D.2.2.2.2.2.2.2.1), .int (D.2.2.2.2.2.2.2.2.1), .int (D.2.2.2.2.2.2.2.2.2)]))], rowW cyI (A 1) (A 6) (20) (D.1), rowW cyI (A 2) (A 7) (20) (D.2.1), rowW cyI (A 3) (A 8) (6) (D.2.2.1), rowW cyI (A 4) (A 9) (20) (D.2.2.2.1), rowW cyI (A 5) (A 10) (20) (D.2.2.2.2.1)]) s9.heap := hP
  have hD : va_D A9 (cat [[(A 0, .inr (1, [.ref (A 1), .ref (A 2), .ref (A 3), .ref (A 4), .ref (A 5), .int (nI (D.2.2.2.2.2.1)), .int (D.2.2.2.2.2.2.1), .int (D.2.2.2.2.2.2.2.1), .int (D.2.2.2.2.2.2.2.2.1), .int (D.2.2.2.2.2.2.2.2.2)]))], rowW cyI (A 1) (A 6) (20) (D.1), rowW cyI (A 2) (A 7) (20) (D.2.1), rowW cyI (A 3) (A 8) (6) (D.2.2.1), rowW cyI (A 4) (A 9) (20) (D.2.2.2.1), rowW cyI (A 5) (A 10) (20) (D.2.2.2.2.1)]) := hD
  refine lv_iconst (v := (0 : Int32)) hx hb dX1_giveUp_0 (by decide) ?_
  refine lv_istore_n (lv' := [(1, .int ((0 : Int32))), (0, .ref (A 0))]) hx hb dX1_giveUp_1 rfl hl (by decide) rfl (fun ls hl => ?_)
  refine lv_iconst (v := (0 : Int32)) hx hb dX1_giveUp_2 (by decide) ?_
  refine lv_istore_n (lv' := [(2, .int ((0 : Int32))), (1, .int ((0 : Int32))), (0, .ref (A 0))]) hx hb dX1_giveUp_3 rfl hl (by decide) rfl (fun ls hl => ?_)
  refine W_loop (α := Nat × (Nat → Int32) × Nat) (I := fun a9 H locs ls => (a9.1 ≤ D.2.2.2.2.2.1) ∧ ((a9.2.1, a9.2.2) = itr a9.1 (guStep D.2.2.2.1) (D.2.1, 0)) ∧ va_P G vwCl (cat [[(A 0, .inr (1, [.ref (A 1), .ref (A 2), .ref (A 3), .ref (A 4), .ref (A 5), .int (nI (D.2.2.2.2.2.1)), .int (D.2.2.2.2.2.2.1), .int (D.2.2.2.2.2.2.2.1), .int (D.2.2.2.2.2.2.2.2.1), .int (D.2.2.2.2.2.2.2.2.2)]))], rowW cyI (A 1) (A 6) (20) (D.1), rowW cyI (A 2) (A 7) (20) (a9.2.1), rowW cyI (A 3) (A 8) (6) (D.2.2.1), rowW cyI (A 4) (A 9) (20) (D.2.2.2.1), rowW cyI (A 5) (A 10) (20) (D.2.2.2.2.1)]) H ∧ va_D A9 (cat [[(A 0, .inr (1, [.ref (A 1), .ref (A 2), .ref (A 3), .ref (A 4), .ref (A 5), .int (nI (D.2.2.2.2.2.1)), .int (D.2.2.2.2.2.2.1), .int (D.2.2.2.2.2.2.2.1), .int (D.2.2.2.2.2.2.2.2.1), .int (D.2.2.2.2.2.2.2.2.2)]))], rowW cyI (A 1) (A 6) (20) (D.1), rowW cyI (A 2) (A 7) (20) (a9.2.1), rowW cyI (A 3) (A 8) (6) (D.2.2.1), rowW cyI (A 4) (A 9) (20) (D.2.2.2.1), rowW cyI (A 5) (A 10) (20) (D.2.2.2.2.1)]) ∧ va_S A9 s9.heap H locs ∧ lv_has ls 4 [(2, .int (nI (a9.1))), (1, .int (nI (a9.2.2))), (0, .ref (A 0))]) (μ := fun a9 => D.2.2.2.2.2.1 - a9.1) (st := fun a9 => []) ?_ (0, D.2.1, 0) _ _ _ ⟨(show 0 ≤ D.2.2.2.2.2.1 from by omega), (show (D.2.1, 0) = itr 0 (guStep D.2.2.2.1) (D.2.1, 0) from rfl), hP, hD, hS, lv_sub hl [0, 1, 2] rfl⟩
  intro a9 ih_4 H locs ls hI
  obtain ⟨i, O1, x⟩ := a9
  obtain ⟨hi9, he9, hP9, hD9, hS9, hl9⟩ := hI
  have hi : i ≤ D.2.2.2.2.2.1 := hi9
  have he : (O1, x) = itr i (guStep D.2.2.2.1) (D.2.1, 0) := he9
  have hP : va_P G vwCl (cat [[(A 0, .inr (1, [.ref (A 1), .ref (A 2), .ref (A 3), .ref (A 4), .ref (A 5), .int (nI (D.2.2.2.2.2.1)), .int (D.2.2.2.2.2.2.1), .int (D.2.2.2.2.2.2.2.1), .int (D.2.2.2.2.2.2.2.2.1), .int (D.2.2.2.2.2.2.2.2.2)]))], rowW cyI (A 1) (A 6) (20) (D.1), rowW cyI (A 2) (A 7) (20) (O1), rowW cyI (A 3) (A 8) (6) (D.2.2.1), rowW cyI (A 4) (A 9) (20) (D.2.2.2.1), rowW cyI (A 5) (A 10) (20) (D.2.2.2.2.1)]) H := hP9
  have hD : va_D A9 (cat [[(A 0, .inr (1, [.ref (A 1), .ref (A 2), .ref (A 3), .ref (A 4), .ref (A 5), .int (nI (D.2.2.2.2.2.1)), .int (D.2.2.2.2.2.2.1), .int (D.2.2.2.2.2.2.2.1), .int (D.2.2.2.2.2.2.2.2.1), .int (D.2.2.2.2.2.2.2.2.2)]))], rowW cyI (A 1) (A 6) (20) (D.1), rowW cyI (A 2) (A 7) (20) (O1), rowW cyI (A 3) (A 8) (6) (D.2.2.1), rowW cyI (A 4) (A 9) (20) (D.2.2.2.1), rowW cyI (A 5) (A 10) (20) (D.2.2.2.2.1)]) := hD9
  have hS := hS9
  have hl : lv_has ls 4 [(2, .int (nI (i))), (1, .int (nI (x))), (0, .ref (A 0))] := hl9
  clear hi9 he9 hP9 hD9 hS9 hl9
  refine lv_iload_n hx hb dX1_giveUp_4 rfl (lv_at hl 0 rfl) ?_
  refine lv_aload_n hx hb dX1_giveUp_5 rfl (lv_at hl 2 rfl) ?_
  refine va_get (v := .int (nI (D.2.2.2.2.2.1))) (C := RX1) (T := TX1) (N := 10) hx hb hts hinX1 hown hK hP 0 rfl rfl 5 (by decide) hf32 (fun _ h9 => h9) rfl dX1_giveUp_6 ?_
  refine lv_icmp_ge (tgt := 56) hx hb dX1_giveUp_9 (by decide) (fun c_9 => ?_) (fun c_9 => ?_)
  · have c_9 : (D.2.2.2.2.2.1) ≤ (i) := (nI_leI (a := D.2.2.2.2.2.1) (b := i) (by omega) (by omega)).mp c_9
    obtain rfl : D.2.2.2.2.2.1 = i := by omega
    have e1 : O1 = (guAll D.2.2.2.1 D.2.1 D.2.2.2.2.2.1).1 := congrArg Prod.fst he
    have e2 : x = (guAll D.2.2.2.1 D.2.1 D.2.2.2.2.2.1).2 := congrArg Prod.snd he
    subst e1 e2
    refine lv_aload_n hx hb dX1_giveUp_56 rfl (lv_at hl 2 rfl) ?_
    refine lv_iconst (v := (2 : Int32)) hx hb dX1_giveUp_57 (by decide) ?_
    refine va_put (v := .int ((2 : Int32))) (ty := .int) (C := RX1) (T := TX1) (N := 10) hx hb hts hinX1 tyX1 tyX1_ok nmX1 hown hK hP hD hS 0 rfl rfl 6 (by decide) hf36 (fun _ h9 => h9) rfl (by first | rfl | decide +kernel) rfl rfl (Nat.le_of_ble_eq_true rfl) dX1_giveUp_58 (fun H locs hP hD hS => ?_)
    have hP : va_P G vwCl (cat [[(A 0, .inr (1, [.ref (A 1), .ref (A 2), .ref (A 3), .ref (A 4), .ref (A 5), .int (nI (D.2.2.2.2.2.1)), .int ((2 : Int32)), .int (D.2.2.2.2.2.2.2.1), .int (D.2.2.2.2.2.2.2.2.1), .int (D.2.2.2.2.2.2.2.2.2)]))], rowW cyI (A 1) (A 6) (20) (D.1), rowW cyI (A 2) (A 7) (20) ((guAll D.2.2.2.1 D.2.1 D.2.2.2.2.2.1).1), rowW cyI (A 3) (A 8) (6) (D.2.2.1), rowW cyI (A 4) (A 9) (20) (D.2.2.2.1), rowW cyI (A 5) (A 10) (20) (D.2.2.2.2.1)]) H := hP
    have hD : va_D A9 (cat [[(A 0, .inr (1, [.ref (A 1), .ref (A 2), .ref (A 3), .ref (A 4), .ref (A 5), .int (nI (D.2.2.2.2.2.1)), .int ((2 : Int32)), .int (D.2.2.2.2.2.2.2.1), .int (D.2.2.2.2.2.2.2.2.1), .int (D.2.2.2.2.2.2.2.2.2)]))], rowW cyI (A 1) (A 6) (20) (D.1), rowW cyI (A 2) (A 7) (20) ((guAll D.2.2.2.1 D.2.1 D.2.2.2.2.2.1).1), rowW cyI (A 3) (A 8) (6) (D.2.2.1), rowW cyI (A 4) (A 9) (20) (D.2.2.2.1), rowW cyI (A 5) (A 10) (20) (D.2.2.2.2.1)]) := hD
    refine lv_iload_n hx hb dX1_giveUp_61 rfl (lv_at hl 1 rfl) ?_
    have hP : va_P G vwCl (cat [dyW cyI A ((D.1, (guAll D.2.2.2.1 D.2.1 D.2.2.2.2.2.1).1, D.2.2.1, D.2.2.2.1, D.2.2.2.2.1, D.2.2.2.2.2.1, 2, D.2.2.2.2.2.2.2.1, D.2.2.2.2.2.2.2.2.1, D.2.2.2.2.2.2.2.2.2))]) H := hP
    have hD : va_D A9 (cat [dyW cyI A ((D.1, (guAll D.2.2.2.1 D.2.1 D.2.2.2.2.2.1).1, D.2.2.1, D.2.2.2.1, D.2.2.2.2.1, D.2.2.2.2.2.1, 2, D.2.2.2.2.2.2.2.1, D.2.2.2.2.2.2.2.2.1, D.2.2.2.2.2.2.2.2.2))]) := hD
    exact end_i hx hb hr hlocks hK hP hD hS (rfl) dX1_giveUp_62
  · have c_9 : ¬ (D.2.2.2.2.2.1) ≤ (i) := fun h9 => c_9 ((nI_leI (a := D.2.2.2.2.2.1) (b := i) (by omega) (by omega)).mpr h9)
    refine lv_aload_n hx hb dX1_giveUp_12 rfl (lv_at hl 2 rfl) ?_
    refine va_get (v := .ref (A 2)) (C := RX1) (T := TX1) (N := 10) hx hb hts hinX1 hown hK hP 0 rfl rfl 1 (by decide) hf20 (fun _ h9 => h9) rfl dX1_giveUp_13 ?_
    refine lv_iload_n hx hb dX1_giveUp_16 rfl (lv_at hl 0 rfl) ?_
    refine gVi (gs := [[(A 0, .inr (1, [.ref (A 1), .ref (A 2), .ref (A 3), .ref (A 4), .ref (A 5), .int (nI (D.2.2.2.2.2.1)), .int (D.2.2.2.2.2.2.1), .int (D.2.2.2.2.2.2.2.1), .int (D.2.2.2.2.2.2.2.2.1), .int (D.2.2.2.2.2.2.2.2.2)]))], rowW cyI (A 1) (A 6) (20) (D.1), rowW cyI (A 2) (A 7) (20) (O1), rowW cyI (A 3) (A 8) (6) (D.2.2.1), rowW cyI (A 4) (A 9) (20) (D.2.2.2.1), rowW cyI (A 5) (A 10) (20) (D.2.2.2.2.1)]) (As := [.int (nI (i))]) (rest := []) ⟨hx, hb, hml, hown, hts⟩ (c_X3_at l G cyI cyO (A 2) (A 7) 20 O1 (nI (i)) (by omega)) (cwV 1 hts gX1_giveUp_X3_at rfl rfl rfl (by decide +kernel) ⟨Nat.le_of_ble_eq_true rfl, Nat.le_of_ble_eq_true rfl⟩) hK hP hD hS hA [2] rfl rfl rfl 0 3 rfl rfl rfl hl.1 rfl (Nat.le_of_ble_eq_true rfl) dX1_giveUp_17 ⟨Nat.le_refl _, Nat.le_refl _⟩ (fun H locs hP hD hS => ?_)
    have hP : va_P G vwCl (cat [[(A 0, .inr (1, [.ref (A 1), .ref (A 2), .ref (A 3), .ref (A 4), .ref (A 5), .int (nI (D.2.2.2.2.2.1)), .int (D.2.2.2.2.2.2.1), .int (D.2.2.2.2.2.2.2.1), .int (D.2.2.2.2.2.2.2.2.1), .int (D.2.2.2.2.2.2.2.2.2)]))], rowW cyI (A 1) (A 6) (20) (D.1), rowW cyI (A 2) (A 7) (20) (O1), rowW cyI (A 3) (A 8) (6) (D.2.2.1), rowW cyI (A 4) (A 9) (20) (D.2.2.2.1), rowW cyI (A 5) (A 10) (20) (D.2.2.2.2.1)]) H := hP
    have hD : va_D A9 (cat [[(A 0, .inr (1, [.ref (A 1), .ref (A 2), .ref (A 3), .ref (A 4), .ref (A 5), .int (nI (D.2.2.2.2.2.1)), .int (D.2.2.2.2.2.2.1), .int (D.2.2.2.2.2.2.2.1), .int (D.2.2.2.2.2.2.2.2.1), .int (D.2.2.2.2.2.2.2.2.2)]))], rowW cyI (A 1) (A 6) (20) (D.1), rowW cyI (A 2) (A 7) (20) (O1), rowW cyI (A 3) (A 8) (6) (D.2.2.1), rowW cyI (A 4) (A 9) (20) (D.2.2.2.1), rowW cyI (A 5) (A 10) (20) (D.2.2.2.2.1)]) := hD
    refine top_i (x' := O1 i) (rowAt_in (by omega) (by omega)) ?_
    refine lv_istore_n (lv' := [(3, .int (O1 i)), (2, .int (nI (i))), (1, .int (nI (x))), (0, .ref (A 0))]) hx hb dX1_giveUp_20 rfl hl (by decide) rfl (fun ls hl => ?_)
    refine lv_iload_n hx hb dX1_giveUp_21 rfl (lv_at hl 0 rfl) ?_
    refine lv_iconst (v := (-1 : Int32)) hx hb dX1_giveUp_22 (by decide) ?_
    refine lv_icmp_eq (tgt := 50) hx hb dX1_giveUp_23 (by decide) (fun c_23 => ?_) (fun c_23 => ?_)
    · refine lv_iinc (v := nI (i + 1)) (lv' := [(2, .int (nI (i + 1))), (3, .int (O1 i)), (1, .int (nI (x))), (0, .ref (A 0))]) hx hb dX1_giveUp_50 hl (k := 1) rfl (nI_add _ _) (by decide) rfl (fun ls hl => ?_)
      refine lv_goto (tgt := 4) hx hb dX1_giveUp_53 (by decide) ?_
      exact ih_4 (i + 1, O1, x) (by show (D.2.2.2.2.2.1 - (i + 1)) < (D.2.2.2.2.2.1 - i); omega) _ _ _ ⟨(show (i + 1) ≤ D.2.2.2.2.2.1 from by omega), (show (O1, x) = itr (i + 1) (guStep D.2.2.2.1) (D.2.1, 0) from by show _ = guStep _ i (itr i _ _); rw [← he]; simp [guStep, c_9, c_23]), hP, hD, hS, lv_sub hl [0, 2, 3] rfl⟩
    · refine lv_iload_n hx hb dX1_giveUp_26 rfl (lv_at hl 0 rfl) ?_
      refine lv_aload_n hx hb dX1_giveUp_27 rfl (lv_at hl 3 rfl) ?_
      refine va_get (v := .ref (A 4)) (C := RX1) (T := TX1) (N := 10) hx hb hts hinX1 hown hK hP 0 rfl rfl 3 (by decide) hf26 (fun _ h9 => h9) rfl dX1_giveUp_28 ?_
      refine lv_iload_n hx hb dX1_giveUp_31 rfl (lv_at hl 1 rfl) ?_
      refine gVi (gs := [[(A 0, .inr (1, [.ref (A 1), .ref (A 2), .ref (A 3), .ref (A 4), .ref (A 5), .int (nI (D.2.2.2.2.2.1)), .int (D.2.2.2.2.2.2.1), .int (D.2.2.2.2.2.2.2.1), .int (D.2.2.2.2.2.2.2.2.1), .int (D.2.2.2.2.2.2.2.2.2)]))], rowW cyI (A 1) (A 6) (20) (D.1), rowW cyI (A 2) (A 7) (20) (O1), rowW cyI (A 3) (A 8) (6) (D.2.2.1), rowW cyI (A 4) (A 9) (20) (D.2.2.2.1), rowW cyI (A 5) (A 10) (20) (D.2.2.2.2.1)]) (As := [.int (nI (i))]) (rest := [.int (O1 i)]) ⟨hx, hb, hml, hown, hts⟩ (c_X3_at l G cyI cyO (A 4) (A 9) 20 D.2.2.2.1 (nI (i)) (by omega)) (cwV 1 hts gX1_giveUp_X3_at rfl rfl rfl (by decide +kernel) ⟨Nat.le_of_ble_eq_true rfl, Nat.le_of_ble_eq_true rfl⟩) hK hP hD hS hA [4] rfl rfl rfl 0 3 rfl rfl rfl hl.1 rfl (Nat.le_of_ble_eq_true rfl) dX1_giveUp_32 ⟨Nat.le_refl _, Nat.le_refl _⟩ (fun H locs hP hD hS => ?_)
      have hP : va_P G vwCl (cat [[(A 0, .inr (1, [.ref (A 1), .ref (A 2), .ref (A 3), .ref (A 4), .ref (A 5), .int (nI (D.2.2.2.2.2.1)), .int (D.2.2.2.2.2.2.1), .int (D.2.2.2.2.2.2.2.1), .int (D.2.2.2.2.2.2.2.2.1), .int (D.2.2.2.2.2.2.2.2.2)]))], rowW cyI (A 1) (A 6) (20) (D.1), rowW cyI (A 2) (A 7) (20) (O1), rowW cyI (A 3) (A 8) (6) (D.2.2.1), rowW cyI (A 4) (A 9) (20) (D.2.2.2.1), rowW cyI (A 5) (A 10) (20) (D.2.2.2.2.1)]) H := hP
      have hD : va_D A9 (cat [[(A 0, .inr (1, [.ref (A 1), .ref (A 2), .ref (A 3), .ref (A 4), .ref (A 5), .int (nI (D.2.2.2.2.2.1)), .int (D.2.2.2.2.2.2.1), .int (D.2.2.2.2.2.2.2.1), .int (D.2.2.2.2.2.2.2.2.1), .int (D.2.2.2.2.2.2.2.2.2)]))], rowW cyI (A 1) (A 6) (20) (D.1), rowW cyI (A 2) (A 7) (20) (O1), rowW cyI (A 3) (A 8) (6) (D.2.2.1), rowW cyI (A 4) (A 9) (20) (D.2.2.2.1), rowW cyI (A 5) (A 10) (20) (D.2.2.2.2.1)]) := hD
      refine top_i (x' := D.2.2.2.1 i) (rowAt_in (by omega) (by omega)) ?_
      refine lv_icmp_eq (tgt := 50) hx hb dX1_giveUp_35 (by decide) (fun c_35 => ?_) (fun c_35 => ?_)
      · refine lv_iinc (v := nI (i + 1)) (lv' := [(2, .int (nI (i + 1))), (3, .int (O1 i)), (1, .int (nI (x))), (0, .ref (A 0))]) hx hb dX1_giveUp_50 hl (k := 1) rfl (nI_add _ _) (by decide) rfl (fun ls hl => ?_)
        refine lv_goto (tgt := 4) hx hb dX1_giveUp_53 (by decide) ?_
        exact ih_4 (i + 1, O1, x) (by show (D.2.2.2.2.2.1 - (i + 1)) < (D.2.2.2.2.2.1 - i); omega) _ _ _ ⟨(show (i + 1) ≤ D.2.2.2.2.2.1 from by omega), (show (O1, x) = itr (i + 1) (guStep D.2.2.2.1) (D.2.1, 0) from by show _ = guStep _ i (itr i _ _); rw [← he]; simp [guStep, c_9, c_23, c_35]), hP, hD, hS, lv_sub hl [0, 2, 3] rfl⟩
      · refine lv_aload_n hx hb dX1_giveUp_38 rfl (lv_at hl 3 rfl) ?_
        refine va_get (v := .ref (A 2)) (C := RX1) (T := TX1) (N := 10) hx hb hts hinX1 hown hK hP 0 rfl rfl 1 (by decide) hf20 (fun _ h9 => h9) rfl dX1_giveUp_39 ?_
        refine lv_iload_n hx hb dX1_giveUp_42 rfl (lv_at hl 1 rfl) ?_
        refine lv_iconst (v := (-1 : Int32)) hx hb dX1_giveUp_43 (by decide) ?_
        refine gVv (gs := [[(A 0, .inr (1, [.ref (A 1), .ref (A 2), .ref (A 3), .ref (A 4), .ref (A 5), .int (nI (D.2.2.2.2.2.1)), .int (D.2.2.2.2.2.2.1), .int (D.2.2.2.2.2.2.2.1), .int (D.2.2.2.2.2.2.2.2.1), .int (D.2.2.2.2.2.2.2.2.2)]))], rowW cyI (A 1) (A 6) (20) (D.1), rowW cyI (A 2) (A 7) (20) (O1), rowW cyI (A 3) (A 8) (6) (D.2.2.1), rowW cyI (A 4) (A 9) (20) (D.2.2.2.1), rowW cyI (A 5) (A 10) (20) (D.2.2.2.2.1)]) (As := [.int (nI (i)), .int ((-1 : Int32))]) (rest := []) ⟨hx, hb, hml, hown, hts⟩ (c_X3_put l G cyI cyO (A 2) (A 7) 20 O1 (nI (i)) ((-1 : Int32)) (by omega)) (cwV 2 hts gX1_giveUp_X3_put rfl rfl rfl (by decide +kernel) ⟨Nat.le_of_ble_eq_true rfl, Nat.le_of_ble_eq_true rfl⟩) hK hP hD hS hA [2] rfl rfl rfl 0 3 rfl rfl rfl hl.1 rfl (Nat.le_of_ble_eq_true rfl) dX1_giveUp_44 ⟨Nat.le_refl _, Nat.le_refl _⟩ (fun H locs hP hD hS => ?_)
        have hP : va_P G vwCl (cat [[(A 0, .inr (1, [.ref (A 1), .ref (A 2), .ref (A 3), .ref (A 4), .ref (A 5), .int (nI (D.2.2.2.2.2.1)), .int (D.2.2.2.2.2.2.1), .int (D.2.2.2.2.2.2.2.1), .int (D.2.2.2.2.2.2.2.2.1), .int (D.2.2.2.2.2.2.2.2.2)]))], rowW cyI (A 1) (A 6) (20) (D.1), rowW cyI (A 2) (A 7) (20) (rowPut O1 20 (nI (i)) ((-1 : Int32))), rowW cyI (A 3) (A 8) (6) (D.2.2.1), rowW cyI (A 4) (A 9) (20) (D.2.2.2.1), rowW cyI (A 5) (A 10) (20) (D.2.2.2.2.1)]) H := hP
        have hD : va_D A9 (cat [[(A 0, .inr (1, [.ref (A 1), .ref (A 2), .ref (A 3), .ref (A 4), .ref (A 5), .int (nI (D.2.2.2.2.2.1)), .int (D.2.2.2.2.2.2.1), .int (D.2.2.2.2.2.2.2.1), .int (D.2.2.2.2.2.2.2.2.1), .int (D.2.2.2.2.2.2.2.2.2)]))], rowW cyI (A 1) (A 6) (20) (D.1), rowW cyI (A 2) (A 7) (20) (rowPut O1 20 (nI (i)) ((-1 : Int32))), rowW cyI (A 3) (A 8) (6) (D.2.2.1), rowW cyI (A 4) (A 9) (20) (D.2.2.2.1), rowW cyI (A 5) (A 10) (20) (D.2.2.2.2.1)]) := hD
        rw [rowPut_in (by omega) (by omega)] at hP hD
        have hP : va_P G vwCl (cat [[(A 0, .inr (1, [.ref (A 1), .ref (A 2), .ref (A 3), .ref (A 4), .ref (A 5), .int (nI (D.2.2.2.2.2.1)), .int (D.2.2.2.2.2.2.1), .int (D.2.2.2.2.2.2.2.1), .int (D.2.2.2.2.2.2.2.2.1), .int (D.2.2.2.2.2.2.2.2.2)]))], rowW cyI (A 1) (A 6) (20) (D.1), rowW cyI (A 2) (A 7) (20) (upd O1 i (-1)), rowW cyI (A 3) (A 8) (6) (D.2.2.1), rowW cyI (A 4) (A 9) (20) (D.2.2.2.1), rowW cyI (A 5) (A 10) (20) (D.2.2.2.2.1)]) H := hP
        have hD : va_D A9 (cat [[(A 0, .inr (1, [.ref (A 1), .ref (A 2), .ref (A 3), .ref (A 4), .ref (A 5), .int (nI (D.2.2.2.2.2.1)), .int (D.2.2.2.2.2.2.1), .int (D.2.2.2.2.2.2.2.1), .int (D.2.2.2.2.2.2.2.2.1), .int (D.2.2.2.2.2.2.2.2.2)]))], rowW cyI (A 1) (A 6) (20) (D.1), rowW cyI (A 2) (A 7) (20) (upd O1 i (-1)), rowW cyI (A 3) (A 8) (6) (D.2.2.1), rowW cyI (A 4) (A 9) (20) (D.2.2.2.1), rowW cyI (A 5) (A 10) (20) (D.2.2.2.2.1)]) := hD
        refine lv_iinc (v := nI (x + 1)) (lv' := [(1, .int (nI (x + 1))), (3, .int (O1 i)), (2, .int (nI (i))), (0, .ref (A 0))]) hx hb dX1_giveUp_47 hl (k := 2) rfl (nI_add _ _) (by decide) rfl (fun ls hl => ?_)
        refine lv_iinc (v := nI (i + 1)) (lv' := [(2, .int (nI (i + 1))), (1, .int (nI (x + 1))), (3, .int (O1 i)), (0, .ref (A 0))]) hx hb dX1_giveUp_50 hl (k := 2) rfl (nI_add _ _) (by decide) rfl (fun ls hl => ?_)
        refine lv_goto (tgt := 4) hx hb dX1_giveUp_53 (by decide) ?_
        exact ih_4 (i + 1, upd O1 i (-1), x + 1) (by show (D.2.2.2.2.2.1 - (i + 1)) < (D.2.2.2.2.2.1 - i); omega) _ _ _ ⟨(show (i + 1) ≤ D.2.2.2.2.2.1 from by omega), (show ((upd O1 i (-1)), (x + 1)) = itr (i + 1) (guStep D.2.2.2.1) (D.2.1, 0) from by show _ = guStep _ i (itr i _ _); rw [← he]; simp [guStep, c_9, c_23, c_35]), hP, hD, hS, lv_sub hl [0, 1, 3] rfl⟩
abbrev rm_X1_moveTo : Room := { frames := 1, cells := 0, slots := 0, locals := 22 }
set_option maxHeartbeats 4000000 in
set_option maxRecDepth 100000 in
theorem c_X1_moveToN (l : Launch) (G : va_G) (cyI cyO : ClassId) (A : Nat → Nat) (D : DS) (hn : D.2.2.2.2.2.1 ≤ 20) : CI l G (TY cyI cyO) yX1_moveTo wsX1_moveTo rm_X1_moveTo [.ref (A 0), .ref (A 4)] [dyW cyI A D] (nI ((mvAll D.2.2.2.1 D.2.1 D.2.2.2.2.2.1).2)) [dyW cyI A ((D.1, (mvAll D.2.2.2.1 D.2.1 D.2.2.2.2.2.1).1, D.2.2.1, D.2.2.2.1, D.2.2.2.2.1, D.2.2.2.2.2.1, D.2.2.2.2.2.2.1, D.2.2.2.2.2.2.2.1, D.2.2.2.2.2.2.2.2.1, D.2.2.2.2.2.2.2.2.2))] := by
  refine wk_I (cc := cX1_moveTo) (maxL := 4) (ret := (some .int)) (by decide) rfl (Nat.le_of_ble_eq_true rfl) ?_
  intro p9 e9 s9 m9 b9 t9 c9 A9 ls hx hb hr hts hown hlocks hml hK hA hD hP hl hS hnm
  have hl : lv_has ls 4 [(0, .ref (A 0)), (1, .ref (A 4))] := hl
  have hinX1 : ∀ w ∈ wsX10, w ∈ wsX1_moveTo := by decide +kernel
  have hf20 := hts (.fieldLink RX1 20 "DoorstepRounds$Dairy" "owners" "LDoorstepRounds$Row;") (by decide +kernel)
  have hf32 := hts (.fieldLink RX1 32 "DoorstepRounds$Dairy" "count" "I") (by decide +kernel)
  have hP : va_P G vwCl (cat [[(A 0, .inr (1, [.ref (A 1), .ref (A 2), .ref (A 3), .ref (A 4), .ref (A 5), .int (nI (D.2.2.2.2.2.1)), .int (D.2.2.2.2.2.2.1), .int (D.2.2.2.2.2.2.2.1), .int (D.2.2.2.2.2.2.2.2.1), .int (D.2.2.2.2.2.2.2.2.2)]))], rowW cyI (A 1) (A 6) (20) (D.1), rowW cyI (A 2) (A 7) (20) (D.2.1), rowW cyI (A 3) (A 8) (6) (D.2.2.1), rowW cyI (A 4) (A 9) (20) (D.2.2.2.1), rowW cyI (A 5) (A 10) (20) (D.2.2.2.2.1)]) s9.heap := hP
  have hD : va_D A9 (cat [[(A 0, .inr (1, [.ref (A 1), .ref (A 2), .ref (A 3), .ref (A 4), .ref (A 5), .int (nI (D.2.2.2.2.2.1)), .int (D.2.2.2.2.2.2.1), .int (D.2.2.2.2.2.2.2.1), .int (D.2.2.2.2.2.2.2.2.1), .int (D.2.2.2.2.2.2.2.2.2)]))], rowW cyI (A 1) (A 6) (20) (D.1), rowW cyI (A 2) (A 7) (20) (D.2.1), rowW cyI (A 3) (A 8) (6) (D.2.2.1), rowW cyI (A 4) (A 9) (20) (D.2.2.2.1), rowW cyI (A 5) (A 10) (20) (D.2.2.2.2.1)]) := hD
  refine lv_iconst (v := (0 : Int32)) hx hb dX1_moveTo_0 (by decide) ?_
  refine lv_istore_n (lv' := [(2, .int ((0 : Int32))), (0, .ref (A 0)), (1, .ref (A 4))]) hx hb dX1_moveTo_1 rfl hl (by decide) rfl (fun ls hl => ?_)
  refine lv_iconst (v := (0 : Int32)) hx hb dX1_moveTo_2 (by decide) ?_
  refine lv_istore_n (lv' := [(3, .int ((0 : Int32))), (2, .int ((0 : Int32))), (0, .ref (A 0)), (1, .ref (A 4))]) hx hb dX1_moveTo_3 rfl hl (by decide) rfl (fun ls hl => ?_)
  refine W_loop (α := Nat × (Nat → Int32) × Nat) (I := fun a9 H locs ls => (a9.1 ≤ D.2.2.2.2.2.1) ∧ ((a9.2.1, a9.2.2) = itr a9.1 (mvStep D.2.2.2.1) (D.2.1, 0)) ∧ va_P G vwCl (cat [[(A 0, .inr (1, [.ref (A 1), .ref (A 2), .ref (A 3), .ref (A 4), .ref (A 5), .int (nI (D.2.2.2.2.2.1)), .int (D.2.2.2.2.2.2.1), .int (D.2.2.2.2.2.2.2.1), .int (D.2.2.2.2.2.2.2.2.1), .int (D.2.2.2.2.2.2.2.2.2)]))], rowW cyI (A 1) (A 6) (20) (D.1), rowW cyI (A 2) (A 7) (20) (a9.2.1), rowW cyI (A 3) (A 8) (6) (D.2.2.1), rowW cyI (A 4) (A 9) (20) (D.2.2.2.1), rowW cyI (A 5) (A 10) (20) (D.2.2.2.2.1)]) H ∧ va_D A9 (cat [[(A 0, .inr (1, [.ref (A 1), .ref (A 2), .ref (A 3), .ref (A 4), .ref (A 5), .int (nI (D.2.2.2.2.2.1)), .int (D.2.2.2.2.2.2.1), .int (D.2.2.2.2.2.2.2.1), .int (D.2.2.2.2.2.2.2.2.1), .int (D.2.2.2.2.2.2.2.2.2)]))], rowW cyI (A 1) (A 6) (20) (D.1), rowW cyI (A 2) (A 7) (20) (a9.2.1), rowW cyI (A 3) (A 8) (6) (D.2.2.1), rowW cyI (A 4) (A 9) (20) (D.2.2.2.1), rowW cyI (A 5) (A 10) (20) (D.2.2.2.2.1)]) ∧ va_S A9 s9.heap H locs ∧ lv_has ls 4 [(3, .int (nI (a9.1))), (2, .int (nI (a9.2.2))), (0, .ref (A 0)), (1, .ref (A 4))]) (μ := fun a9 => D.2.2.2.2.2.1 - a9.1) (st := fun a9 => []) ?_ (0, D.2.1, 0) _ _ _ ⟨(show 0 ≤ D.2.2.2.2.2.1 from by omega), (show (D.2.1, 0) = itr 0 (mvStep D.2.2.2.1) (D.2.1, 0) from rfl), hP, hD, hS, lv_sub hl [0, 1, 2, 3] rfl⟩
  intro a9 ih_4 H locs ls hI
  obtain ⟨i, O1, x⟩ := a9
  obtain ⟨hi9, he9, hP9, hD9, hS9, hl9⟩ := hI
  have hi : i ≤ D.2.2.2.2.2.1 := hi9
  have he : (O1, x) = itr i (mvStep D.2.2.2.1) (D.2.1, 0) := he9
  have hP : va_P G vwCl (cat [[(A 0, .inr (1, [.ref (A 1), .ref (A 2), .ref (A 3), .ref (A 4), .ref (A 5), .int (nI (D.2.2.2.2.2.1)), .int (D.2.2.2.2.2.2.1), .int (D.2.2.2.2.2.2.2.1), .int (D.2.2.2.2.2.2.2.2.1), .int (D.2.2.2.2.2.2.2.2.2)]))], rowW cyI (A 1) (A 6) (20) (D.1), rowW cyI (A 2) (A 7) (20) (O1), rowW cyI (A 3) (A 8) (6) (D.2.2.1), rowW cyI (A 4) (A 9) (20) (D.2.2.2.1), rowW cyI (A 5) (A 10) (20) (D.2.2.2.2.1)]) H := hP9
  have hD : va_D A9 (cat [[(A 0, .inr (1, [.ref (A 1), .ref (A 2), .ref (A 3), .ref (A 4), .ref (A 5), .int (nI (D.2.2.2.2.2.1)), .int (D.2.2.2.2.2.2.1), .int (D.2.2.2.2.2.2.2.1), .int (D.2.2.2.2.2.2.2.2.1), .int (D.2.2.2.2.2.2.2.2.2)]))], rowW cyI (A 1) (A 6) (20) (D.1), rowW cyI (A 2) (A 7) (20) (O1), rowW cyI (A 3) (A 8) (6) (D.2.2.1), rowW cyI (A 4) (A 9) (20) (D.2.2.2.1), rowW cyI (A 5) (A 10) (20) (D.2.2.2.2.1)]) := hD9
  have hS := hS9
  have hl : lv_has ls 4 [(3, .int (nI (i))), (2, .int (nI (x))), (0, .ref (A 0)), (1, .ref (A 4))] := hl9
  clear hi9 he9 hP9 hD9 hS9 hl9
  refine lv_iload_n hx hb dX1_moveTo_4 rfl (lv_at hl 0 rfl) ?_
  refine lv_aload_n hx hb dX1_moveTo_5 rfl (lv_at hl 2 rfl) ?_
  refine va_get (v := .int (nI (D.2.2.2.2.2.1))) (C := RX1) (T := TX1) (N := 10) hx hb hts hinX1 hown hK hP 0 rfl rfl 5 (by decide) hf32 (fun _ h9 => h9) rfl dX1_moveTo_6 ?_
  refine lv_icmp_ge (tgt := 50) hx hb dX1_moveTo_9 (by decide) (fun c_9 => ?_) (fun c_9 => ?_)
  · have c_9 : (D.2.2.2.2.2.1) ≤ (i) := (nI_leI (a := D.2.2.2.2.2.1) (b := i) (by omega) (by omega)).mp c_9
    obtain rfl : D.2.2.2.2.2.1 = i := by omega
    have e1 : O1 = (mvAll D.2.2.2.1 D.2.1 D.2.2.2.2.2.1).1 := congrArg Prod.fst he
    have e2 : x = (mvAll D.2.2.2.1 D.2.1 D.2.2.2.2.2.1).2 := congrArg Prod.snd he
    subst e1 e2
    refine lv_iload_n hx hb dX1_moveTo_50 rfl (lv_at hl 1 rfl) ?_
    have hP : va_P G vwCl (cat [dyW cyI A ((D.1, (mvAll D.2.2.2.1 D.2.1 D.2.2.2.2.2.1).1, D.2.2.1, D.2.2.2.1, D.2.2.2.2.1, D.2.2.2.2.2.1, D.2.2.2.2.2.2.1, D.2.2.2.2.2.2.2.1, D.2.2.2.2.2.2.2.2.1, D.2.2.2.2.2.2.2.2.2))]) H := hP
    have hD : va_D A9 (cat [dyW cyI A ((D.1, (mvAll D.2.2.2.1 D.2.1 D.2.2.2.2.2.1).1, D.2.2.1, D.2.2.2.1, D.2.2.2.2.1, D.2.2.2.2.2.1, D.2.2.2.2.2.2.1, D.2.2.2.2.2.2.2.1, D.2.2.2.2.2.2.2.2.1, D.2.2.2.2.2.2.2.2.2))]) := hD
    exact end_i hx hb hr hlocks hK hP hD hS (rfl) dX1_moveTo_51
  · have c_9 : ¬ (D.2.2.2.2.2.1) ≤ (i) := fun h9 => c_9 ((nI_leI (a := D.2.2.2.2.2.1) (b := i) (by omega) (by omega)).mpr h9)
    refine lv_aload_n hx hb dX1_moveTo_12 rfl (lv_at hl 2 rfl) ?_
    refine va_get (v := .ref (A 2)) (C := RX1) (T := TX1) (N := 10) hx hb hts hinX1 hown hK hP 0 rfl rfl 1 (by decide) hf20 (fun _ h9 => h9) rfl dX1_moveTo_13 ?_
    refine lv_iload_n hx hb dX1_moveTo_16 rfl (lv_at hl 0 rfl) ?_
    refine gVi (gs := [[(A 0, .inr (1, [.ref (A 1), .ref (A 2), .ref (A 3), .ref (A 4), .ref (A 5), .int (nI (D.2.2.2.2.2.1)), .int (D.2.2.2.2.2.2.1), .int (D.2.2.2.2.2.2.2.1), .int (D.2.2.2.2.2.2.2.2.1), .int (D.2.2.2.2.2.2.2.2.2)]))], rowW cyI (A 1) (A 6) (20) (D.1), rowW cyI (A 2) (A 7) (20) (O1), rowW cyI (A 3) (A 8) (6) (D.2.2.1), rowW cyI (A 4) (A 9) (20) (D.2.2.2.1), rowW cyI (A 5) (A 10) (20) (D.2.2.2.2.1)]) (As := [.int (nI (i))]) (rest := []) ⟨hx, hb, hml, hown, hts⟩ (c_X3_at l G cyI cyO (A 2) (A 7) 20 O1 (nI (i)) (by omega)) (cwV 1 hts gX1_moveTo_X3_at rfl rfl rfl (by decide +kernel) ⟨Nat.le_of_ble_eq_true rfl, Nat.le_of_ble_eq_true rfl⟩) hK hP hD hS hA [2] rfl rfl rfl 0 3 rfl rfl rfl hl.1 rfl (Nat.le_of_ble_eq_true rfl) dX1_moveTo_17 ⟨Nat.le_refl _, Nat.le_refl _⟩ (fun H locs hP hD hS => ?_)
    have hP : va_P G vwCl (cat [[(A 0, .inr (1, [.ref (A 1), .ref (A 2), .ref (A 3), .ref (A 4), .ref (A 5), .int (nI (D.2.2.2.2.2.1)), .int (D.2.2.2.2.2.2.1), .int (D.2.2.2.2.2.2.2.1), .int (D.2.2.2.2.2.2.2.2.1), .int (D.2.2.2.2.2.2.2.2.2)]))], rowW cyI (A 1) (A 6) (20) (D.1), rowW cyI (A 2) (A 7) (20) (O1), rowW cyI (A 3) (A 8) (6) (D.2.2.1), rowW cyI (A 4) (A 9) (20) (D.2.2.2.1), rowW cyI (A 5) (A 10) (20) (D.2.2.2.2.1)]) H := hP
    have hD : va_D A9 (cat [[(A 0, .inr (1, [.ref (A 1), .ref (A 2), .ref (A 3), .ref (A 4), .ref (A 5), .int (nI (D.2.2.2.2.2.1)), .int (D.2.2.2.2.2.2.1), .int (D.2.2.2.2.2.2.2.1), .int (D.2.2.2.2.2.2.2.2.1), .int (D.2.2.2.2.2.2.2.2.2)]))], rowW cyI (A 1) (A 6) (20) (D.1), rowW cyI (A 2) (A 7) (20) (O1), rowW cyI (A 3) (A 8) (6) (D.2.2.1), rowW cyI (A 4) (A 9) (20) (D.2.2.2.1), rowW cyI (A 5) (A 10) (20) (D.2.2.2.2.1)]) := hD
    refine top_i (x' := O1 i) (rowAt_in (by omega) (by omega)) ?_
    refine lv_aload_n hx hb dX1_moveTo_20 rfl (lv_at hl 3 rfl) ?_
    refine lv_iload_n hx hb dX1_moveTo_21 rfl (lv_at hl 0 rfl) ?_
    refine gVi (gs := [[(A 0, .inr (1, [.ref (A 1), .ref (A 2), .ref (A 3), .ref (A 4), .ref (A 5), .int (nI (D.2.2.2.2.2.1)), .int (D.2.2.2.2.2.2.1), .int (D.2.2.2.2.2.2.2.1), .int (D.2.2.2.2.2.2.2.2.1), .int (D.2.2.2.2.2.2.2.2.2)]))], rowW cyI (A 1) (A 6) (20) (D.1), rowW cyI (A 2) (A 7) (20) (O1), rowW cyI (A 3) (A 8) (6) (D.2.2.1), rowW cyI (A 4) (A 9) (20) (D.2.2.2.1), rowW cyI (A 5) (A 10) (20) (D.2.2.2.2.1)]) (As := [.int (nI (i))]) (rest := [.int (O1 i)]) ⟨hx, hb, hml, hown, hts⟩ (c_X3_at l G cyI cyO (A 4) (A 9) 20 D.2.2.2.1 (nI (i)) (by omega)) (cwV 1 hts gX1_moveTo_X3_at rfl rfl rfl (by decide +kernel) ⟨Nat.le_of_ble_eq_true rfl, Nat.le_of_ble_eq_true rfl⟩) hK hP hD hS hA [4] rfl rfl rfl 0 3 rfl rfl rfl hl.1 rfl (Nat.le_of_ble_eq_true rfl) dX1_moveTo_22 ⟨Nat.le_refl _, Nat.le_refl _⟩ (fun H locs hP hD hS => ?_)
    have hP : va_P G vwCl (cat [[(A 0, .inr (1, [.ref (A 1), .ref (A 2), .ref (A 3), .ref (A 4), .ref (A 5), .int (nI (D.2.2.2.2.2.1)), .int (D.2.2.2.2.2.2.1), .int (D.2.2.2.2.2.2.2.1), .int (D.2.2.2.2.2.2.2.2.1), .int (D.2.2.2.2.2.2.2.2.2)]))], rowW cyI (A 1) (A 6) (20) (D.1), rowW cyI (A 2) (A 7) (20) (O1), rowW cyI (A 3) (A 8) (6) (D.2.2.1), rowW cyI (A 4) (A 9) (20) (D.2.2.2.1), rowW cyI (A 5) (A 10) (20) (D.2.2.2.2.1)]) H := hP
    have hD : va_D A9 (cat [[(A 0, .inr (1, [.ref (A 1), .ref (A 2), .ref (A 3), .ref (A 4), .ref (A 5), .int (nI (D.2.2.2.2.2.1)), .int (D.2.2.2.2.2.2.1), .int (D.2.2.2.2.2.2.2.1), .int (D.2.2.2.2.2.2.2.2.1), .int (D.2.2.2.2.2.2.2.2.2)]))], rowW cyI (A 1) (A 6) (20) (D.1), rowW cyI (A 2) (A 7) (20) (O1), rowW cyI (A 3) (A 8) (6) (D.2.2.1), rowW cyI (A 4) (A 9) (20) (D.2.2.2.1), rowW cyI (A 5) (A 10) (20) (D.2.2.2.2.1)]) := hD
    refine top_i (x' := D.2.2.2.1 i) (rowAt_in (by omega) (by omega)) ?_
    refine lv_icmp_eq (tgt := 44) hx hb dX1_moveTo_25 (by decide) (fun c_25 => ?_) (fun c_25 => ?_)
    · refine lv_iinc (v := nI (i + 1)) (lv' := [(3, .int (nI (i + 1))), (2, .int (nI (x))), (0, .ref (A 0)), (1, .ref (A 4))]) hx hb dX1_moveTo_44 hl (k := 0) rfl (nI_add _ _) (by decide) rfl (fun ls hl => ?_)
      refine lv_goto (tgt := 4) hx hb dX1_moveTo_47 (by decide) ?_
      exact ih_4 (i + 1, O1, x) (by show (D.2.2.2.2.2.1 - (i + 1)) < (D.2.2.2.2.2.1 - i); omega) _ _ _ ⟨(show (i + 1) ≤ D.2.2.2.2.2.1 from by omega), (show (O1, x) = itr (i + 1) (mvStep D.2.2.2.1) (D.2.1, 0) from by show _ = mvStep _ i (itr i _ _); rw [← he]; simp [mvStep, c_9, c_25]), hP, hD, hS, lv_sub hl [0, 1, 2, 3] rfl⟩
    · refine lv_aload_n hx hb dX1_moveTo_28 rfl (lv_at hl 2 rfl) ?_
      refine va_get (v := .ref (A 2)) (C := RX1) (T := TX1) (N := 10) hx hb hts hinX1 hown hK hP 0 rfl rfl 1 (by decide) hf20 (fun _ h9 => h9) rfl dX1_moveTo_29 ?_
      refine lv_iload_n hx hb dX1_moveTo_32 rfl (lv_at hl 0 rfl) ?_
      refine lv_aload_n hx hb dX1_moveTo_33 rfl (lv_at hl 3 rfl) ?_
      refine lv_iload_n hx hb dX1_moveTo_34 rfl (lv_at hl 0 rfl) ?_
      refine gVi (gs := [[(A 0, .inr (1, [.ref (A 1), .ref (A 2), .ref (A 3), .ref (A 4), .ref (A 5), .int (nI (D.2.2.2.2.2.1)), .int (D.2.2.2.2.2.2.1), .int (D.2.2.2.2.2.2.2.1), .int (D.2.2.2.2.2.2.2.2.1), .int (D.2.2.2.2.2.2.2.2.2)]))], rowW cyI (A 1) (A 6) (20) (D.1), rowW cyI (A 2) (A 7) (20) (O1), rowW cyI (A 3) (A 8) (6) (D.2.2.1), rowW cyI (A 4) (A 9) (20) (D.2.2.2.1), rowW cyI (A 5) (A 10) (20) (D.2.2.2.2.1)]) (As := [.int (nI (i))]) (rest := [.int (nI (i)), .ref (A 2)]) ⟨hx, hb, hml, hown, hts⟩ (c_X3_at l G cyI cyO (A 4) (A 9) 20 D.2.2.2.1 (nI (i)) (by omega)) (cwV 1 hts gX1_moveTo_X3_at rfl rfl rfl (by decide +kernel) ⟨Nat.le_of_ble_eq_true rfl, Nat.le_of_ble_eq_true rfl⟩) hK hP hD hS hA [4] rfl rfl rfl 0 3 rfl rfl rfl hl.1 rfl (Nat.le_of_ble_eq_true rfl) dX1_moveTo_35 ⟨Nat.le_refl _, Nat.le_refl _⟩ (fun H locs hP hD hS => ?_)
      have hP : va_P G vwCl (cat [[(A 0, .inr (1, [.ref (A 1), .ref (A 2), .ref (A 3), .ref (A 4), .ref (A 5), .int (nI (D.2.2.2.2.2.1)), .int (D.2.2.2.2.2.2.1), .int (D.2.2.2.2.2.2.2.1), .int (D.2.2.2.2.2.2.2.2.1), .int (D.2.2.2.2.2.2.2.2.2)]))], rowW cyI (A 1) (A 6) (20) (D.1), rowW cyI (A 2) (A 7) (20) (O1), rowW cyI (A 3) (A 8) (6) (D.2.2.1), rowW cyI (A 4) (A 9) (20) (D.2.2.2.1), rowW cyI (A 5) (A 10) (20) (D.2.2.2.2.1)]) H := hP
      have hD : va_D A9 (cat [[(A 0, .inr (1, [.ref (A 1), .ref (A 2), .ref (A 3), .ref (A 4), .ref (A 5), .int (nI (D.2.2.2.2.2.1)), .int (D.2.2.2.2.2.2.1), .int (D.2.2.2.2.2.2.2.1), .int (D.2.2.2.2.2.2.2.2.1), .int (D.2.2.2.2.2.2.2.2.2)]))], rowW cyI (A 1) (A 6) (20) (D.1), rowW cyI (A 2) (A 7) (20) (O1), rowW cyI (A 3) (A 8) (6) (D.2.2.1), rowW cyI (A 4) (A 9) (20) (D.2.2.2.1), rowW cyI (A 5) (A 10) (20) (D.2.2.2.2.1)]) := hD
      refine top_i (x' := D.2.2.2.1 i) (rowAt_in (by omega) (by omega)) ?_
      refine gVv (gs := [[(A 0, .inr (1, [.ref (A 1), .ref (A 2), .ref (A 3), .ref (A 4), .ref (A 5), .int (nI (D.2.2.2.2.2.1)), .int (D.2.2.2.2.2.2.1), .int (D.2.2.2.2.2.2.2.1), .int (D.2.2.2.2.2.2.2.2.1), .int (D.2.2.2.2.2.2.2.2.2)]))], rowW cyI (A 1) (A 6) (20) (D.1), rowW cyI (A 2) (A 7) (20) (O1), rowW cyI (A 3) (A 8) (6) (D.2.2.1), rowW cyI (A 4) (A 9) (20) (D.2.2.2.1), rowW cyI (A 5) (A 10) (20) (D.2.2.2.2.1)]) (As := [.int (nI (i)), .int (D.2.2.2.1 i)]) (rest := []) ⟨hx, hb, hml, hown, hts⟩ (c_X3_put l G cyI cyO (A 2) (A 7) 20 O1 (nI (i)) (D.2.2.2.1 i) (by omega)) (cwV 2 hts gX1_moveTo_X3_put rfl rfl rfl (by decide +kernel) ⟨Nat.le_of_ble_eq_true rfl, Nat.le_of_ble_eq_true rfl⟩) hK hP hD hS hA [2] rfl rfl rfl 0 3 rfl rfl rfl hl.1 rfl (Nat.le_of_ble_eq_true rfl) dX1_moveTo_38 ⟨Nat.le_refl _, Nat.le_refl _⟩ (fun H locs hP hD hS => ?_)
      have hP : va_P G vwCl (cat [[(A 0, .inr (1, [.ref (A 1), .ref (A 2), .ref (A 3), .ref (A 4), .ref (A 5), .int (nI (D.2.2.2.2.2.1)), .int (D.2.2.2.2.2.2.1), .int (D.2.2.2.2.2.2.2.1), .int (D.2.2.2.2.2.2.2.2.1), .int (D.2.2.2.2.2.2.2.2.2)]))], rowW cyI (A 1) (A 6) (20) (D.1), rowW cyI (A 2) (A 7) (20) (rowPut O1 20 (nI (i)) (D.2.2.2.1 i)), rowW cyI (A 3) (A 8) (6) (D.2.2.1), rowW cyI (A 4) (A 9) (20) (D.2.2.2.1), rowW cyI (A 5) (A 10) (20) (D.2.2.2.2.1)]) H := hP
      have hD : va_D A9 (cat [[(A 0, .inr (1, [.ref (A 1), .ref (A 2), .ref (A 3), .ref (A 4), .ref (A 5), .int (nI (D.2.2.2.2.2.1)), .int (D.2.2.2.2.2.2.1), .int (D.2.2.2.2.2.2.2.1), .int (D.2.2.2.2.2.2.2.2.1), .int (D.2.2.2.2.2.2.2.2.2)]))], rowW cyI (A 1) (A 6) (20) (D.1), rowW cyI (A 2) (A 7) (20) (rowPut O1 20 (nI (i)) (D.2.2.2.1 i)), rowW cyI (A 3) (A 8) (6) (D.2.2.1), rowW cyI (A 4) (A 9) (20) (D.2.2.2.1), rowW cyI (A 5) (A 10) (20) (D.2.2.2.2.1)]) := hD
      rw [rowPut_in (by omega) (by omega)] at hP hD
      have hP : va_P G vwCl (cat [[(A 0, .inr (1, [.ref (A 1), .ref (A 2), .ref (A 3), .ref (A 4), .ref (A 5), .int (nI (D.2.2.2.2.2.1)), .int (D.2.2.2.2.2.2.1), .int (D.2.2.2.2.2.2.2.1), .int (D.2.2.2.2.2.2.2.2.1), .int (D.2.2.2.2.2.2.2.2.2)]))], rowW cyI (A 1) (A 6) (20) (D.1), rowW cyI (A 2) (A 7) (20) (upd O1 i (D.2.2.2.1 i)), rowW cyI (A 3) (A 8) (6) (D.2.2.1), rowW cyI (A 4) (A 9) (20) (D.2.2.2.1), rowW cyI (A 5) (A 10) (20) (D.2.2.2.2.1)]) H := hP
      have hD : va_D A9 (cat [[(A 0, .inr (1, [.ref (A 1), .ref (A 2), .ref (A 3), .ref (A 4), .ref (A 5), .int (nI (D.2.2.2.2.2.1)), .int (D.2.2.2.2.2.2.1), .int (D.2.2.2.2.2.2.2.1), .int (D.2.2.2.2.2.2.2.2.1), .int (D.2.2.2.2.2.2.2.2.2)]))], rowW cyI (A 1) (A 6) (20) (D.1), rowW cyI (A 2) (A 7) (20) (upd O1 i (D.2.2.2.1 i)), rowW cyI (A 3) (A 8) (6) (D.2.2.1), rowW cyI (A 4) (A 9) (20) (D.2.2.2.1), rowW cyI (A 5) (A 10) (20) (D.2.2.2.2.1)]) := hD
      refine lv_iinc (v := nI (x + 1)) (lv' := [(2, .int (nI (x + 1))), (3, .int (nI (i))), (0, .ref (A 0)), (1, .ref (A 4))]) hx hb dX1_moveTo_41 hl (k := 1) rfl (nI_add _ _) (by decide) rfl (fun ls hl => ?_)
      refine lv_iinc (v := nI (i + 1)) (lv' := [(3, .int (nI (i + 1))), (2, .int (nI (x + 1))), (0, .ref (A 0)), (1, .ref (A 4))]) hx hb dX1_moveTo_44 hl (k := 1) rfl (nI_add _ _) (by decide) rfl (fun ls hl => ?_)
      refine lv_goto (tgt := 4) hx hb dX1_moveTo_47 (by decide) ?_
      exact ih_4 (i + 1, upd O1 i (D.2.2.2.1 i), x + 1) (by show (D.2.2.2.2.2.1 - (i + 1)) < (D.2.2.2.2.2.1 - i); omega) _ _ _ ⟨(show (i + 1) ≤ D.2.2.2.2.2.1 from by omega), (show ((upd O1 i (D.2.2.2.1 i)), (x + 1)) = itr (i + 1) (mvStep D.2.2.2.1) (D.2.1, 0) from by show _ = mvStep _ i (itr i _ _); rw [← he]; simp [mvStep, c_9, c_25]), hP, hD, hS, lv_sub hl [0, 1, 2, 3] rfl⟩
set_option maxHeartbeats 4000000 in
set_option maxRecDepth 100000 in
theorem c_X1_moveToB (l : Launch) (G : va_G) (cyI cyO : ClassId) (A : Nat → Nat) (D : DS) (hn : D.2.2.2.2.2.1 ≤ 20) : CI l G (TY cyI cyO) yX1_moveTo wsX1_moveTo rm_X1_moveTo [.ref (A 0), .ref (A 5)] [dyW cyI A D] (nI ((mvAll D.2.2.2.2.1 D.2.1 D.2.2.2.2.2.1).2)) [dyW cyI A ((D.1, (mvAll D.2.2.2.2.1 D.2.1 D.2.2.2.2.2.1).1, D.2.2.1, D.2.2.2.1, D.2.2.2.2.1, D.2.2.2.2.2.1, D.2.2.2.2.2.2.1, D.2.2.2.2.2.2.2.1, D.2.2.2.2.2.2.2.2.1, D.2.2.2.2.2.2.2.2.2))] := by
  refine wk_I (cc := cX1_moveTo) (maxL := 4) (ret := (some .int)) (by decide) rfl (Nat.le_of_ble_eq_true rfl) ?_
  intro p9 e9 s9 m9 b9 t9 c9 A9 ls hx hb hr hts hown hlocks hml hK hA hD hP hl hS hnm
  have hl : lv_has ls 4 [(0, .ref (A 0)), (1, .ref (A 5))] := hl
  have hinX1 : ∀ w ∈ wsX10, w ∈ wsX1_moveTo := by decide +kernel
  have hf20 := hts (.fieldLink RX1 20 "DoorstepRounds$Dairy" "owners" "LDoorstepRounds$Row;") (by decide +kernel)
  have hf32 := hts (.fieldLink RX1 32 "DoorstepRounds$Dairy" "count" "I") (by decide +kernel)
  have hP : va_P G vwCl (cat [[(A 0, .inr (1, [.ref (A 1), .ref (A 2), .ref (A 3), .ref (A 4), .ref (A 5), .int (nI (D.2.2.2.2.2.1)), .int (D.2.2.2.2.2.2.1), .int (D.2.2.2.2.2.2.2.1), .int (D.2.2.2.2.2.2.2.2.1), .int (D.2.2.2.2.2.2.2.2.2)]))], rowW cyI (A 1) (A 6) (20) (D.1), rowW cyI (A 2) (A 7) (20) (D.2.1), rowW cyI (A 3) (A 8) (6) (D.2.2.1), rowW cyI (A 4) (A 9) (20) (D.2.2.2.1), rowW cyI (A 5) (A 10) (20) (D.2.2.2.2.1)]) s9.heap := hP
  have hD : va_D A9 (cat [[(A 0, .inr (1, [.ref (A 1), .ref (A 2), .ref (A 3), .ref (A 4), .ref (A 5), .int (nI (D.2.2.2.2.2.1)), .int (D.2.2.2.2.2.2.1), .int (D.2.2.2.2.2.2.2.1), .int (D.2.2.2.2.2.2.2.2.1), .int (D.2.2.2.2.2.2.2.2.2)]))], rowW cyI (A 1) (A 6) (20) (D.1), rowW cyI (A 2) (A 7) (20) (D.2.1), rowW cyI (A 3) (A 8) (6) (D.2.2.1), rowW cyI (A 4) (A 9) (20) (D.2.2.2.1), rowW cyI (A 5) (A 10) (20) (D.2.2.2.2.1)]) := hD
  refine lv_iconst (v := (0 : Int32)) hx hb dX1_moveTo_0 (by decide) ?_
  refine lv_istore_n (lv' := [(2, .int ((0 : Int32))), (0, .ref (A 0)), (1, .ref (A 5))]) hx hb dX1_moveTo_1 rfl hl (by decide) rfl (fun ls hl => ?_)
  refine lv_iconst (v := (0 : Int32)) hx hb dX1_moveTo_2 (by decide) ?_
  refine lv_istore_n (lv' := [(3, .int ((0 : Int32))), (2, .int ((0 : Int32))), (0, .ref (A 0)), (1, .ref (A 5))]) hx hb dX1_moveTo_3 rfl hl (by decide) rfl (fun ls hl => ?_)
  refine W_loop (α := Nat × (Nat → Int32) × Nat) (I := fun a9 H locs ls => (a9.1 ≤ D.2.2.2.2.2.1) ∧ ((a9.2.1, a9.2.2) = itr a9.1 (mvStep D.2.2.2.2.1) (D.2.1, 0)) ∧ va_P G vwCl (cat [[(A 0, .inr (1, [.ref (A 1), .ref (A 2), .ref (A 3), .ref (A 4), .ref (A 5), .int (nI (D.2.2.2.2.2.1)), .int (D.2.2.2.2.2.2.1), .int (D.2.2.2.2.2.2.2.1), .int (D.2.2.2.2.2.2.2.2.1), .int (D.2.2.2.2.2.2.2.2.2)]))], rowW cyI (A 1) (A 6) (20) (D.1), rowW cyI (A 2) (A 7) (20) (a9.2.1), rowW cyI (A 3) (A 8) (6) (D.2.2.1), rowW cyI (A 4) (A 9) (20) (D.2.2.2.1), rowW cyI (A 5) (A 10) (20) (D.2.2.2.2.1)]) H ∧ va_D A9 (cat [[(A 0, .inr (1, [.ref (A 1), .ref (A 2), .ref (A 3), .ref (A 4), .ref (A 5), .int (nI (D.2.2.2.2.2.1)), .int (D.2.2.2.2.2.2.1), .int (D.2.2.2.2.2.2.2.1), .int (D.2.2.2.2.2.2.2.2.1), .int (D.2.2.2.2.2.2.2.2.2)]))], rowW cyI (A 1) (A 6) (20) (D.1), rowW cyI (A 2) (A 7) (20) (a9.2.1), rowW cyI (A 3) (A 8) (6) (D.2.2.1), rowW cyI (A 4) (A 9) (20) (D.2.2.2.1), rowW cyI (A 5) (A 10) (20) (D.2.2.2.2.1)]) ∧ va_S A9 s9.heap H locs ∧ lv_has ls 4 [(3, .int (nI (a9.1))), (2, .int (nI (a9.2.2))), (0, .ref (A 0)), (1, .ref (A 5))]) (μ := fun a9 => D.2.2.2.2.2.1 - a9.1) (st := fun a9 => []) ?_ (0, D.2.1, 0) _ _ _ ⟨(show 0 ≤ D.2.2.2.2.2.1 from by omega), (show (D.2.1, 0) = itr 0 (mvStep D.2.2.2.2.1) (D.2.1, 0) from rfl), hP, hD, hS, lv_sub hl [0, 1, 2, 3] rfl⟩
  intro a9 ih_4 H locs ls hI
  obtain ⟨i, O1, x⟩ := a9
  obtain ⟨hi9, he9, hP9, hD9, hS9, hl9⟩ := hI
  have hi : i ≤ D.2.2.2.2.2.1 := hi9
  have he : (O1, x) = itr i (mvStep D.2.2.2.2.1) (D.2.1, 0) := he9
  have hP : va_P G vwCl (cat [[(A 0, .inr (1, [.ref (A 1), .ref (A 2), .ref (A 3), .ref (A 4), .ref (A 5), .int (nI (D.2.2.2.2.2.1)), .int (D.2.2.2.2.2.2.1), .int (D.2.2.2.2.2.2.2.1), .int (D.2.2.2.2.2.2.2.2.1), .int (D.2.2.2.2.2.2.2.2.2)]))], rowW cyI (A 1) (A 6) (20) (D.1), rowW cyI (A 2) (A 7) (20) (O1), rowW cyI (A 3) (A 8) (6) (D.2.2.1), rowW cyI (A 4) (A 9) (20) (D.2.2.2.1), rowW cyI (A 5) (A 10) (20) (D.2.2.2.2.1)]) H := hP9
  have hD : va_D A9 (cat [[(A 0, .inr (1, [.ref (A 1), .ref (A 2), .ref (A 3), .ref (A 4), .ref (A 5), .int (nI (D.2.2.2.2.2.1)), .int (D.2.2.2.2.2.2.1), .int (D.2.2.2.2.2.2.2.1), .int (D.2.2.2.2.2.2.2.2.1), .int (D.2.2.2.2.2.2.2.2.2)]))], rowW cyI (A 1) (A 6) (20) (D.1), rowW cyI (A 2) (A 7) (20) (O1), rowW cyI (A 3) (A 8) (6) (D.2.2.1), rowW cyI (A 4) (A 9) (20) (D.2.2.2.1), rowW cyI (A 5) (A 10) (20) (D.2.2.2.2.1)]) := hD9
  have hS := hS9
  have hl : lv_has ls 4 [(3, .int (nI (i))), (2, .int (nI (x))), (0, .ref (A 0)), (1, .ref (A 5))] := hl9
  clear hi9 he9 hP9 hD9 hS9 hl9
  refine lv_iload_n hx hb dX1_moveTo_4 rfl (lv_at hl 0 rfl) ?_
  refine lv_aload_n hx hb dX1_moveTo_5 rfl (lv_at hl 2 rfl) ?_
  refine va_get (v := .int (nI (D.2.2.2.2.2.1))) (C := RX1) (T := TX1) (N := 10) hx hb hts hinX1 hown hK hP 0 rfl rfl 5 (by decide) hf32 (fun _ h9 => h9) rfl dX1_moveTo_6 ?_
  refine lv_icmp_ge (tgt := 50) hx hb dX1_moveTo_9 (by decide) (fun c_9 => ?_) (fun c_9 => ?_)
  · have c_9 : (D.2.2.2.2.2.1) ≤ (i) := (nI_leI (a := D.2.2.2.2.2.1) (b := i) (by omega) (by omega)).mp c_9
    obtain rfl : D.2.2.2.2.2.1 = i := by omega
    have e1 : O1 = (mvAll D.2.2.2.2.1 D.2.1 D.2.2.2.2.2.1).1 := congrArg Prod.fst he
    have e2 : x = (mvAll D.2.2.2.2.1 D.2.1 D.2.2.2.2.2.1).2 := congrArg Prod.snd he
    subst e1 e2
    refine lv_iload_n hx hb dX1_moveTo_50 rfl (lv_at hl 1 rfl) ?_
    have hP : va_P G vwCl (cat [dyW cyI A ((D.1, (mvAll D.2.2.2.2.1 D.2.1 D.2.2.2.2.2.1).1, D.2.2.1, D.2.2.2.1, D.2.2.2.2.1, D.2.2.2.2.2.1, D.2.2.2.2.2.2.1, D.2.2.2.2.2.2.2.1, D.2.2.2.2.2.2.2.2.1, D.2.2.2.2.2.2.2.2.2))]) H := hP
    have hD : va_D A9 (cat [dyW cyI A ((D.1, (mvAll D.2.2.2.2.1 D.2.1 D.2.2.2.2.2.1).1, D.2.2.1, D.2.2.2.1, D.2.2.2.2.1, D.2.2.2.2.2.1, D.2.2.2.2.2.2.1, D.2.2.2.2.2.2.2.1, D.2.2.2.2.2.2.2.2.1, D.2.2.2.2.2.2.2.2.2))]) := hD
    exact end_i hx hb hr hlocks hK hP hD hS (rfl) dX1_moveTo_51
  · have c_9 : ¬ (D.2.2.2.2.2.1) ≤ (i) := fun h9 => c_9 ((nI_leI (a := D.2.2.2.2.2.1) (b := i) (by omega) (by omega)).mpr h9)
    refine lv_aload_n hx hb dX1_moveTo_12 rfl (lv_at hl 2 rfl) ?_
    refine va_get (v := .ref (A 2)) (C := RX1) (T := TX1) (N := 10) hx hb hts hinX1 hown hK hP 0 rfl rfl 1 (by decide) hf20 (fun _ h9 => h9) rfl dX1_moveTo_13 ?_
    refine lv_iload_n hx hb dX1_moveTo_16 rfl (lv_at hl 0 rfl) ?_
    refine gVi (gs := [[(A 0, .inr (1, [.ref (A 1), .ref (A 2), .ref (A 3), .ref (A 4), .ref (A 5), .int (nI (D.2.2.2.2.2.1)), .int (D.2.2.2.2.2.2.1), .int (D.2.2.2.2.2.2.2.1), .int (D.2.2.2.2.2.2.2.2.1), .int (D.2.2.2.2.2.2.2.2.2)]))], rowW cyI (A 1) (A 6) (20) (D.1), rowW cyI (A 2) (A 7) (20) (O1), rowW cyI (A 3) (A 8) (6) (D.2.2.1), rowW cyI (A 4) (A 9) (20) (D.2.2.2.1), rowW cyI (A 5) (A 10) (20) (D.2.2.2.2.1)]) (As := [.int (nI (i))]) (rest := []) ⟨hx, hb, hml, hown, hts⟩ (c_X3_at l G cyI cyO (A 2) (A 7) 20 O1 (nI (i)) (by omega)) (cwV 1 hts gX1_moveTo_X3_at rfl rfl rfl (by decide +kernel) ⟨Nat.le_of_ble_eq_true rfl, Nat.le_of_ble_eq_true rfl⟩) hK hP hD hS hA [2] rfl rfl rfl 0 3 rfl rfl rfl hl.1 rfl (Nat.le_of_ble_eq_true rfl) dX1_moveTo_17 ⟨Nat.le_refl _, Nat.le_refl _⟩ (fun H locs hP hD hS => ?_)
    have hP : va_P G vwCl (cat [[(A 0, .inr (1, [.ref (A 1), .ref (A 2), .ref (A 3), .ref (A 4), .ref (A 5), .int (nI (D.2.2.2.2.2.1)), .int (D.2.2.2.2.2.2.1), .int (D.2.2.2.2.2.2.2.1), .int (D.2.2.2.2.2.2.2.2.1), .int (D.2.2.2.2.2.2.2.2.2)]))], rowW cyI (A 1) (A 6) (20) (D.1), rowW cyI (A 2) (A 7) (20) (O1), rowW cyI (A 3) (A 8) (6) (D.2.2.1), rowW cyI (A 4) (A 9) (20) (D.2.2.2.1), rowW cyI (A 5) (A 10) (20) (D.2.2.2.2.1)]) H := hP
    have hD : va_D A9 (cat [[(A 0, .inr (1, [.ref (A 1), .ref (A 2), .ref (A 3), .ref (A 4), .ref (A 5), .int (nI (D.2.2.2.2.2.1)), .int (D.2.2.2.2.2.2.1), .int (D.2.2.2.2.2.2.2.1), .int (D.2.2.2.2.2.2.2.2.1), .int (D.2.2.2.2.2.2.2.2.2)]))], rowW cyI (A 1) (A 6) (20) (D.1), rowW cyI (A 2) (A 7) (20) (O1), rowW cyI (A 3) (A 8) (6) (D.2.2.1), rowW cyI (A 4) (A 9) (20) (D.2.2.2.1), rowW cyI (A 5) (A 10) (20) (D.2.2.2.2.1)]) := hD
    refine top_i (x' := O1 i) (rowAt_in (by omega) (by omega)) ?_
    refine lv_aload_n hx hb dX1_moveTo_20 rfl (lv_at hl 3 rfl) ?_
    refine lv_iload_n hx hb dX1_moveTo_21 rfl (lv_at hl 0 rfl) ?_
    refine gVi (gs := [[(A 0, .inr (1, [.ref (A 1), .ref (A 2), .ref (A 3), .ref (A 4), .ref (A 5), .int (nI (D.2.2.2.2.2.1)), .int (D.2.2.2.2.2.2.1), .int (D.2.2.2.2.2.2.2.1), .int (D.2.2.2.2.2.2.2.2.1), .int (D.2.2.2.2.2.2.2.2.2)]))], rowW cyI (A 1) (A 6) (20) (D.1), rowW cyI (A 2) (A 7) (20) (O1), rowW cyI (A 3) (A 8) (6) (D.2.2.1), rowW cyI (A 4) (A 9) (20) (D.2.2.2.1), rowW cyI (A 5) (A 10) (20) (D.2.2.2.2.1)]) (As := [.int (nI (i))]) (rest := [.int (O1 i)]) ⟨hx, hb, hml, hown, hts⟩ (c_X3_at l G cyI cyO (A 5) (A 10) 20 D.2.2.2.2.1 (nI (i)) (by omega)) (cwV 1 hts gX1_moveTo_X3_at rfl rfl rfl (by decide +kernel) ⟨Nat.le_of_ble_eq_true rfl, Nat.le_of_ble_eq_true rfl⟩) hK hP hD hS hA [5] rfl rfl rfl 0 3 rfl rfl rfl hl.1 rfl (Nat.le_of_ble_eq_true rfl) dX1_moveTo_22 ⟨Nat.le_refl _, Nat.le_refl _⟩ (fun H locs hP hD hS => ?_)
    have hP : va_P G vwCl (cat [[(A 0, .inr (1, [.ref (A 1), .ref (A 2), .ref (A 3), .ref (A 4), .ref (A 5), .int (nI (D.2.2.2.2.2.1)), .int (D.2.2.2.2.2.2.1), .int (D.2.2.2.2.2.2.2.1), .int (D.2.2.2.2.2.2.2.2.1), .int (D.2.2.2.2.2.2.2.2.2)]))], rowW cyI (A 1) (A 6) (20) (D.1), rowW cyI (A 2) (A 7) (20) (O1), rowW cyI (A 3) (A 8) (6) (D.2.2.1), rowW cyI (A 4) (A 9) (20) (D.2.2.2.1), rowW cyI (A 5) (A 10) (20) (D.2.2.2.2.1)]) H := hP
    have hD : va_D A9 (cat [[(A 0, .inr (1, [.ref (A 1), .ref (A 2), .ref (A 3), .ref (A 4), .ref (A 5), .int (nI (D.2.2.2.2.2.1)), .int (D.2.2.2.2.2.2.1), .int (D.2.2.2.2.2.2.2.1), .int (D.2.2.2.2.2.2.2.2.1), .int (D.2.2.2.2.2.2.2.2.2)]))], rowW cyI (A 1) (A 6) (20) (D.1), rowW cyI (A 2) (A 7) (20) (O1), rowW cyI (A 3) (A 8) (6) (D.2.2.1), rowW cyI (A 4) (A 9) (20) (D.2.2.2.1), rowW cyI (A 5) (A 10) (20) (D.2.2.2.2.1)]) := hD
    refine top_i (x' := D.2.2.2.2.1 i) (rowAt_in (by omega) (by omega)) ?_
    refine lv_icmp_eq (tgt := 44) hx hb dX1_moveTo_25 (by decide) (fun c_25 => ?_) (fun c_25 => ?_)
    · refine lv_iinc (v := nI (i + 1)) (lv' := [(3, .int (nI (i + 1))), (2, .int (nI (x))), (0, .ref (A 0)), (1, .ref (A 5))]) hx hb dX1_moveTo_44 hl (k := 0) rfl (nI_add _ _) (by decide) rfl (fun ls hl => ?_)
      refine lv_goto (tgt := 4) hx hb dX1_moveTo_47 (by decide) ?_
      exact ih_4 (i + 1, O1, x) (by show (D.2.2.2.2.2.1 - (i + 1)) < (D.2.2.2.2.2.1 - i); omega) _ _ _ ⟨(show (i + 1) ≤ D.2.2.2.2.2.1 from by omega), (show (O1, x) = itr (i + 1) (mvStep D.2.2.2.2.1) (D.2.1, 0) from by show _ = mvStep _ i (itr i _ _); rw [← he]; simp [mvStep, c_9, c_25]), hP, hD, hS, lv_sub hl [0, 1, 2, 3] rfl⟩
    · refine lv_aload_n hx hb dX1_moveTo_28 rfl (lv_at hl 2 rfl) ?_
      refine va_get (v := .ref (A 2)) (C := RX1) (T := TX1) (N := 10) hx hb hts hinX1 hown hK hP 0 rfl rfl 1 (by decide) hf20 (fun _ h9 => h9) rfl dX1_moveTo_29 ?_
      refine lv_iload_n hx hb dX1_moveTo_32 rfl (lv_at hl 0 rfl) ?_
      refine lv_aload_n hx hb dX1_moveTo_33 rfl (lv_at hl 3 rfl) ?_
      refine lv_iload_n hx hb dX1_moveTo_34 rfl (lv_at hl 0 rfl) ?_
      refine gVi (gs := [[(A 0, .inr (1, [.ref (A 1), .ref (A 2), .ref (A 3), .ref (A 4), .ref (A 5), .int (nI (D.2.2.2.2.2.1)), .int (D.2.2.2.2.2.2.1), .int (D.2.2.2.2.2.2.2.1), .int (D.2.2.2.2.2.2.2.2.1), .int (D.2.2.2.2.2.2.2.2.2)]))], rowW cyI (A 1) (A 6) (20) (D.1), rowW cyI (A 2) (A 7) (20) (O1), rowW cyI (A 3) (A 8) (6) (D.2.2.1), rowW cyI (A 4) (A 9) (20) (D.2.2.2.1), rowW cyI (A 5) (A 10) (20) (D.2.2.2.2.1)]) (As := [.int (nI (i))]) (rest := [.int (nI (i)), .ref (A 2)]) ⟨hx, hb, hml, hown, hts⟩ (c_X3_at l G cyI cyO (A 5) (A 10) 20 D.2.2.2.2.1 (nI (i)) (by omega)) (cwV 1 hts gX1_moveTo_X3_at rfl rfl rfl (by decide +kernel) ⟨Nat.le_of_ble_eq_true rfl, Nat.le_of_ble_eq_true rfl⟩) hK hP hD hS hA [5] rfl rfl rfl 0 3 rfl rfl rfl hl.1 rfl (Nat.le_of_ble_eq_true rfl) dX1_moveTo_35 ⟨Nat.le_refl _, Nat.le_refl _⟩ (fun H locs hP hD hS => ?_)
      have hP : va_P G vwCl (cat [[(A 0, .inr (1, [.ref (A 1), .ref (A 2), .ref (A 3), .ref (A 4), .ref (A 5), .int (nI (D.2.2.2.2.2.1)), .int (D.2.2.2.2.2.2.1), .int (D.2.2.2.2.2.2.2.1), .int (D.2.2.2.2.2.2.2.2.1), .int (D.2.2.2.2.2.2.2.2.2)]))], rowW cyI (A 1) (A 6) (20) (D.1), rowW cyI (A 2) (A 7) (20) (O1), rowW cyI (A 3) (A 8) (6) (D.2.2.1), rowW cyI (A 4) (A 9) (20) (D.2.2.2.1), rowW cyI (A 5) (A 10) (20) (D.2.2.2.2.1)]) H := hP
      have hD : va_D A9 (cat [[(A 0, .inr (1, [.ref (A 1), .ref (A 2), .ref (A 3), .ref (A 4), .ref (A 5), .int (nI (D.2.2.2.2.2.1)), .int (D.2.2.2.2.2.2.1), .int (D.2.2.2.2.2.2.2.1), .int (D.2.2.2.2.2.2.2.2.1), .int (D.2.2.2.2.2.2.2.2.2)]))], rowW cyI (A 1) (A 6) (20) (D.1), rowW cyI (A 2) (A 7) (20) (O1), rowW cyI (A 3) (A 8) (6) (D.2.2.1), rowW cyI (A 4) (A 9) (20) (D.2.2.2.1), rowW cyI (A 5) (A 10) (20) (D.2.2.2.2.1)]) := hD
      refine top_i (x' := D.2.2.2.2.1 i) (rowAt_in (by omega) (by omega)) ?_
      refine gVv (gs := [[(A 0, .inr (1, [.ref (A 1), .ref (A 2), .ref (A 3), .ref (A 4), .ref (A 5), .int (nI (D.2.2.2.2.2.1)), .int (D.2.2.2.2.2.2.1), .int (D.2.2.2.2.2.2.2.1), .int (D.2.2.2.2.2.2.2.2.1), .int (D.2.2.2.2.2.2.2.2.2)]))], rowW cyI (A 1) (A 6) (20) (D.1), rowW cyI (A 2) (A 7) (20) (O1), rowW cyI (A 3) (A 8) (6) (D.2.2.1), rowW cyI (A 4) (A 9) (20) (D.2.2.2.1), rowW cyI (A 5) (A 10) (20) (D.2.2.2.2.1)]) (As := [.int (nI (i)), .int (D.2.2.2.2.1 i)]) (rest := []) ⟨hx, hb, hml, hown, hts⟩ (c_X3_put l G cyI cyO (A 2) (A 7) 20 O1 (nI (i)) (D.2.2.2.2.1 i) (by omega)) (cwV 2 hts gX1_moveTo_X3_put rfl rfl rfl (by decide +kernel) ⟨Nat.le_of_ble_eq_true rfl, Nat.le_of_ble_eq_true rfl⟩) hK hP hD hS hA [2] rfl rfl rfl 0 3 rfl rfl rfl hl.1 rfl (Nat.le_of_ble_eq_true rfl) dX1_moveTo_38 ⟨Nat.le_refl _, Nat.le_refl _⟩ (fun H locs hP hD hS => ?_)
      have hP : va_P G vwCl (cat [[(A 0, .inr (1, [.ref (A 1), .ref (A 2), .ref (A 3), .ref (A 4), .ref (A 5), .int (nI (D.2.2.2.2.2.1)), .int (D.2.2.2.2.2.2.1), .int (D.2.2.2.2.2.2.2.1), .int (D.2.2.2.2.2.2.2.2.1), .int (D.2.2.2.2.2.2.2.2.2)]))], rowW cyI (A 1) (A 6) (20) (D.1), rowW cyI (A 2) (A 7) (20) (rowPut O1 20 (nI (i)) (D.2.2.2.2.1 i)), rowW cyI (A 3) (A 8) (6) (D.2.2.1), rowW cyI (A 4) (A 9) (20) (D.2.2.2.1), rowW cyI (A 5) (A 10) (20) (D.2.2.2.2.1)]) H := hP
      have hD : va_D A9 (cat [[(A 0, .inr (1, [.ref (A 1), .ref (A 2), .ref (A 3), .ref (A 4), .ref (A 5), .int (nI (D.2.2.2.2.2.1)), .int (D.2.2.2.2.2.2.1), .int (D.2.2.2.2.2.2.2.1), .int (D.2.2.2.2.2.2.2.2.1), .int (D.2.2.2.2.2.2.2.2.2)]))], rowW cyI (A 1) (A 6) (20) (D.1), rowW cyI (A 2) (A 7) (20) (rowPut O1 20 (nI (i)) (D.2.2.2.2.1 i)), rowW cyI (A 3) (A 8) (6) (D.2.2.1), rowW cyI (A 4) (A 9) (20) (D.2.2.2.1), rowW cyI (A 5) (A 10) (20) (D.2.2.2.2.1)]) := hD
      rw [rowPut_in (by omega) (by omega)] at hP hD
      have hP : va_P G vwCl (cat [[(A 0, .inr (1, [.ref (A 1), .ref (A 2), .ref (A 3), .ref (A 4), .ref (A 5), .int (nI (D.2.2.2.2.2.1)), .int (D.2.2.2.2.2.2.1), .int (D.2.2.2.2.2.2.2.1), .int (D.2.2.2.2.2.2.2.2.1), .int (D.2.2.2.2.2.2.2.2.2)]))], rowW cyI (A 1) (A 6) (20) (D.1), rowW cyI (A 2) (A 7) (20) (upd O1 i (D.2.2.2.2.1 i)), rowW cyI (A 3) (A 8) (6) (D.2.2.1), rowW cyI (A 4) (A 9) (20) (D.2.2.2.1), rowW cyI (A 5) (A 10) (20) (D.2.2.2.2.1)]) H := hP
      have hD : va_D A9 (cat [[(A 0, .inr (1, [.ref (A 1), .ref (A 2), .ref (A 3), .ref (A 4), .ref (A 5), .int (nI (D.2.2.2.2.2.1)), .int (D.2.2.2.2.2.2.1), .int (D.2.2.2.2.2.2.2.1), .int (D.2.2.2.2.2.2.2.2.1), .int (D.2.2.2.2.2.2.2.2.2)]))], rowW cyI (A 1) (A 6) (20) (D.1), rowW cyI (A 2) (A 7) (20) (upd O1 i (D.2.2.2.2.1 i)), rowW cyI (A 3) (A 8) (6) (D.2.2.1), rowW cyI (A 4) (A 9) (20) (D.2.2.2.1), rowW cyI (A 5) (A 10) (20) (D.2.2.2.2.1)]) := hD
      refine lv_iinc (v := nI (x + 1)) (lv' := [(2, .int (nI (x + 1))), (3, .int (nI (i))), (0, .ref (A 0)), (1, .ref (A 5))]) hx hb dX1_moveTo_41 hl (k := 1) rfl (nI_add _ _) (by decide) rfl (fun ls hl => ?_)
      refine lv_iinc (v := nI (i + 1)) (lv' := [(3, .int (nI (i + 1))), (2, .int (nI (x + 1))), (0, .ref (A 0)), (1, .ref (A 5))]) hx hb dX1_moveTo_44 hl (k := 1) rfl (nI_add _ _) (by decide) rfl (fun ls hl => ?_)
      refine lv_goto (tgt := 4) hx hb dX1_moveTo_47 (by decide) ?_
      exact ih_4 (i + 1, upd O1 i (D.2.2.2.2.1 i), x + 1) (by show (D.2.2.2.2.2.1 - (i + 1)) < (D.2.2.2.2.2.1 - i); omega) _ _ _ ⟨(show (i + 1) ≤ D.2.2.2.2.2.1 from by omega), (show ((upd O1 i (D.2.2.2.2.1 i)), (x + 1)) = itr (i + 1) (mvStep D.2.2.2.2.1) (D.2.1, 0) from by show _ = mvStep _ i (itr i _ _); rw [← he]; simp [mvStep, c_9, c_25]), hP, hD, hS, lv_sub hl [0, 1, 2, 3] rfl⟩
abbrev rm_X1_takeOver : Room := { frames := 2, cells := 0, slots := 0, locals := 45 }
set_option maxHeartbeats 4000000 in
set_option maxRecDepth 100000 in
theorem c_X1_takeOver (l : Launch) (G : va_G) (cyI cyO : ClassId) (A : Nat → Nat) (D : DS) (hn : D.2.2.2.2.2.1 ≤ 20) : CI l G (TY cyI cyO) yX1_takeOver wsX1_takeOver rm_X1_takeOver [.ref (A 0)] [dyW cyI A D] (nI ((mvAll D.2.2.2.1 D.2.1 D.2.2.2.2.2.1).2)) [dyW cyI A (dTake D)] := by
  refine wk_I (cc := cX1_takeOver) (maxL := 2) (ret := (some .int)) (by decide) rfl (Nat.le_of_ble_eq_true rfl) ?_
  intro p9 e9 s9 m9 b9 t9 c9 A9 ls hx hb hr hts hown hlocks hml hK hA hD hP hl hS hnm
  have hl : lv_has ls 2 [(0, .ref (A 0))] := hl
  have hinX1 : ∀ w ∈ wsX10, w ∈ wsX1_takeOver := by decide +kernel
  have hf26 := hts (.fieldLink RX1 26 "DoorstepRounds$Dairy" "newOwners" "LDoorstepRounds$Row;") (by decide +kernel)
  have hf36 := hts (.fieldLink RX1 36 "DoorstepRounds$Dairy" "step" "I") (by decide +kernel)
  have hf39 := hts (.fieldLink RX1 39 "DoorstepRounds$Dairy" "takenOver" "I") (by decide +kernel)
  refine lv_aload_n hx hb dX1_takeOver_0 rfl (lv_at hl 0 rfl) ?_
  refine lv_aload_n hx hb dX1_takeOver_1 rfl (lv_at hl 0 rfl) ?_
  refine va_get (v := .ref (A 4)) (C := RX1) (T := TX1) (N := 10) hx hb hts hinX1 hown hK hP 0 rfl rfl 3 (by decide) hf26 (fun _ h9 => h9) rfl dX1_takeOver_2 ?_
  refine gVi (gs := [dyW cyI A D]) (As := [.ref (A 4)]) (rest := []) ⟨hx, hb, hml, hown, hts⟩ (c_X1_moveToN l G cyI cyO A D (by omega)) (cwV 1 hts gX1_takeOver_X1_moveTo rfl rfl rfl (by decide +kernel) ⟨Nat.le_of_ble_eq_true rfl, Nat.le_of_ble_eq_true rfl⟩) hK hP hD hS hA [0] rfl rfl rfl 0 1 rfl rfl rfl hl.1 rfl (Nat.le_of_ble_eq_true rfl) dX1_takeOver_5 ⟨Nat.le_refl _, Nat.le_refl _⟩ (fun H locs hP hD hS => ?_)
  have hP : va_P G vwCl (cat [dyW cyI A ((D.1, (mvAll D.2.2.2.1 D.2.1 D.2.2.2.2.2.1).1, D.2.2.1, D.2.2.2.1, D.2.2.2.2.1, D.2.2.2.2.2.1, D.2.2.2.2.2.2.1, D.2.2.2.2.2.2.2.1, D.2.2.2.2.2.2.2.2.1, D.2.2.2.2.2.2.2.2.2))]) H := hP
  have hD : va_D A9 (cat [dyW cyI A ((D.1, (mvAll D.2.2.2.1 D.2.1 D.2.2.2.2.2.1).1, D.2.2.1, D.2.2.2.1, D.2.2.2.2.1, D.2.2.2.2.2.1, D.2.2.2.2.2.2.1, D.2.2.2.2.2.2.2.1, D.2.2.2.2.2.2.2.2.1, D.2.2.2.2.2.2.2.2.2))]) := hD
  refine lv_istore_n (lv' := [(1, .int (nI ((mvAll D.2.2.2.1 D.2.1 D.2.2.2.2.2.1).2))), (0, .ref (A 0))]) hx hb dX1_takeOver_8 rfl hl (by decide) rfl (fun ls hl => ?_)
  refine lv_aload_n hx hb dX1_takeOver_9 rfl (lv_at hl 1 rfl) ?_
  refine lv_dup hx hb dX1_takeOver_10 rfl ?_
  refine va_get (v := .int (D.2.2.2.2.2.2.2.1)) (C := RX1) (T := TX1) (N := 10) hx hb hts hinX1 hown hK hP 0 rfl rfl 7 (by decide) hf39 (fun _ h9 => h9) rfl dX1_takeOver_11 ?_
  refine lv_iload_n hx hb dX1_takeOver_14 rfl (lv_at hl 0 rfl) ?_
  refine lv_iadd hx hb dX1_takeOver_15 ?_
  have hP : va_P G vwCl (cat [[(A 0, .inr (1, [.ref (A 1), .ref (A 2), .ref (A 3), .ref (A 4), .ref (A 5), .int (nI (D.2.2.2.2.2.1)), .int (D.2.2.2.2.2.2.1), .int (D.2.2.2.2.2.2.2.1), .int (D.2.2.2.2.2.2.2.2.1), .int (D.2.2.2.2.2.2.2.2.2)]))], rowW cyI (A 1) (A 6) (20) (D.1), rowW cyI (A 2) (A 7) (20) ((mvAll D.2.2.2.1 D.2.1 D.2.2.2.2.2.1).1), rowW cyI (A 3) (A 8) (6) (D.2.2.1), rowW cyI (A 4) (A 9) (20) (D.2.2.2.1), rowW cyI (A 5) (A 10) (20) (D.2.2.2.2.1)]) H := hP
  have hD : va_D A9 (cat [[(A 0, .inr (1, [.ref (A 1), .ref (A 2), .ref (A 3), .ref (A 4), .ref (A 5), .int (nI (D.2.2.2.2.2.1)), .int (D.2.2.2.2.2.2.1), .int (D.2.2.2.2.2.2.2.1), .int (D.2.2.2.2.2.2.2.2.1), .int (D.2.2.2.2.2.2.2.2.2)]))], rowW cyI (A 1) (A 6) (20) (D.1), rowW cyI (A 2) (A 7) (20) ((mvAll D.2.2.2.1 D.2.1 D.2.2.2.2.2.1).1), rowW cyI (A 3) (A 8) (6) (D.2.2.1), rowW cyI (A 4) (A 9) (20) (D.2.2.2.1), rowW cyI (A 5) (A 10) (20) (D.2.2.2.2.1)]) := hD
  refine va_put (v := .int (D.2.2.2.2.2.2.2.1 + (nI ((mvAll D.2.2.2.1 D.2.1 D.2.2.2.2.2.1).2)))) (ty := .int) (C := RX1) (T := TX1) (N := 10) hx hb hts hinX1 tyX1 tyX1_ok nmX1 hown hK hP hD hS 0 rfl rfl 7 (by decide) hf39 (fun _ h9 => h9) rfl (by first | rfl | decide +kernel) rfl rfl (Nat.le_of_ble_eq_true rfl) dX1_takeOver_16 (fun H locs hP hD hS => ?_)
  have hP : va_P G vwCl (cat [[(A 0, .inr (1, [.ref (A 1), .ref (A 2), .ref (A 3), .ref (A 4), .ref (A 5), .int (nI (D.2.2.2.2.2.1)), .int (D.2.2.2.2.2.2.1), .int (D.2.2.2.2.2.2.2.1 + (nI ((mvAll D.2.2.2.1 D.2.1 D.2.2.2.2.2.1).2))), .int (D.2.2.2.2.2.2.2.2.1), .int (D.2.2.2.2.2.2.2.2.2)]))], rowW cyI (A 1) (A 6) (20) (D.1), rowW cyI (A 2) (A 7) (20) ((mvAll D.2.2.2.1 D.2.1 D.2.2.2.2.2.1).1), rowW cyI (A 3) (A 8) (6) (D.2.2.1), rowW cyI (A 4) (A 9) (20) (D.2.2.2.1), rowW cyI (A 5) (A 10) (20) (D.2.2.2.2.1)]) H := hP
  have hD : va_D A9 (cat [[(A 0, .inr (1, [.ref (A 1), .ref (A 2), .ref (A 3), .ref (A 4), .ref (A 5), .int (nI (D.2.2.2.2.2.1)), .int (D.2.2.2.2.2.2.1), .int (D.2.2.2.2.2.2.2.1 + (nI ((mvAll D.2.2.2.1 D.2.1 D.2.2.2.2.2.1).2))), .int (D.2.2.2.2.2.2.2.2.1), .int (D.2.2.2.2.2.2.2.2.2)]))], rowW cyI (A 1) (A 6) (20) (D.1), rowW cyI (A 2) (A 7) (20) ((mvAll D.2.2.2.1 D.2.1 D.2.2.2.2.2.1).1), rowW cyI (A 3) (A 8) (6) (D.2.2.1), rowW cyI (A 4) (A 9) (20) (D.2.2.2.1), rowW cyI (A 5) (A 10) (20) (D.2.2.2.2.1)]) := hD
  refine lv_aload_n hx hb dX1_takeOver_19 rfl (lv_at hl 1 rfl) ?_
  refine lv_iconst (v := (0 : Int32)) hx hb dX1_takeOver_20 (by decide) ?_
  refine va_put (v := .int ((0 : Int32))) (ty := .int) (C := RX1) (T := TX1) (N := 10) hx hb hts hinX1 tyX1 tyX1_ok nmX1 hown hK hP hD hS 0 rfl rfl 6 (by decide) hf36 (fun _ h9 => h9) rfl (by first | rfl | decide +kernel) rfl rfl (Nat.le_of_ble_eq_true rfl) dX1_takeOver_21 (fun H locs hP hD hS => ?_)
  have hP : va_P G vwCl (cat [[(A 0, .inr (1, [.ref (A 1), .ref (A 2), .ref (A 3), .ref (A 4), .ref (A 5), .int (nI (D.2.2.2.2.2.1)), .int ((0 : Int32)), .int (D.2.2.2.2.2.2.2.1 + (nI ((mvAll D.2.2.2.1 D.2.1 D.2.2.2.2.2.1).2))), .int (D.2.2.2.2.2.2.2.2.1), .int (D.2.2.2.2.2.2.2.2.2)]))], rowW cyI (A 1) (A 6) (20) (D.1), rowW cyI (A 2) (A 7) (20) ((mvAll D.2.2.2.1 D.2.1 D.2.2.2.2.2.1).1), rowW cyI (A 3) (A 8) (6) (D.2.2.1), rowW cyI (A 4) (A 9) (20) (D.2.2.2.1), rowW cyI (A 5) (A 10) (20) (D.2.2.2.2.1)]) H := hP
  have hD : va_D A9 (cat [[(A 0, .inr (1, [.ref (A 1), .ref (A 2), .ref (A 3), .ref (A 4), .ref (A 5), .int (nI (D.2.2.2.2.2.1)), .int ((0 : Int32)), .int (D.2.2.2.2.2.2.2.1 + (nI ((mvAll D.2.2.2.1 D.2.1 D.2.2.2.2.2.1).2))), .int (D.2.2.2.2.2.2.2.2.1), .int (D.2.2.2.2.2.2.2.2.2)]))], rowW cyI (A 1) (A 6) (20) (D.1), rowW cyI (A 2) (A 7) (20) ((mvAll D.2.2.2.1 D.2.1 D.2.2.2.2.2.1).1), rowW cyI (A 3) (A 8) (6) (D.2.2.1), rowW cyI (A 4) (A 9) (20) (D.2.2.2.1), rowW cyI (A 5) (A 10) (20) (D.2.2.2.2.1)]) := hD
  refine lv_iload_n hx hb dX1_takeOver_24 rfl (lv_at hl 0 rfl) ?_
  have hP : va_P G vwCl (cat [dyW cyI A (dTake D)]) H := hP
  have hD : va_D A9 (cat [dyW cyI A (dTake D)]) := hD
  exact end_i hx hb hr hlocks hK hP hD hS (rfl) dX1_takeOver_25
abbrev rm_X1_giveBack : Room := { frames := 2, cells := 0, slots := 0, locals := 45 }
set_option maxHeartbeats 4000000 in
set_option maxRecDepth 100000 in
theorem c_X1_giveBack (l : Launch) (G : va_G) (cyI cyO : ClassId) (A : Nat → Nat) (D : DS) (hn : D.2.2.2.2.2.1 ≤ 20) : CI l G (TY cyI cyO) yX1_giveBack wsX1_giveBack rm_X1_giveBack [.ref (A 0)] [dyW cyI A D] (nI ((mvAll D.2.2.2.2.1 D.2.1 D.2.2.2.2.2.1).2)) [dyW cyI A ((D.1, (mvAll D.2.2.2.2.1 D.2.1 D.2.2.2.2.2.1).1, D.2.2.1, D.2.2.2.1, D.2.2.2.2.1, D.2.2.2.2.2.1, 0, D.2.2.2.2.2.2.2.1, D.2.2.2.2.2.2.2.2.1, D.2.2.2.2.2.2.2.2.2))] := by
  refine wk_I (cc := cX1_giveBack) (maxL := 2) (ret := (some .int)) (by decide) rfl (Nat.le_of_ble_eq_true rfl) ?_
  intro p9 e9 s9 m9 b9 t9 c9 A9 ls hx hb hr hts hown hlocks hml hK hA hD hP hl hS hnm
  have hl : lv_has ls 2 [(0, .ref (A 0))] := hl
  have hinX1 : ∀ w ∈ wsX10, w ∈ wsX1_giveBack := by decide +kernel
  have hf29 := hts (.fieldLink RX1 29 "DoorstepRounds$Dairy" "oldOwners" "LDoorstepRounds$Row;") (by decide +kernel)
  have hf36 := hts (.fieldLink RX1 36 "DoorstepRounds$Dairy" "step" "I") (by decide +kernel)
  refine lv_aload_n hx hb dX1_giveBack_0 rfl (lv_at hl 0 rfl) ?_
  refine lv_aload_n hx hb dX1_giveBack_1 rfl (lv_at hl 0 rfl) ?_
  refine va_get (v := .ref (A 5)) (C := RX1) (T := TX1) (N := 10) hx hb hts hinX1 hown hK hP 0 rfl rfl 4 (by decide) hf29 (fun _ h9 => h9) rfl dX1_giveBack_2 ?_
  refine gVi (gs := [dyW cyI A D]) (As := [.ref (A 5)]) (rest := []) ⟨hx, hb, hml, hown, hts⟩ (c_X1_moveToB l G cyI cyO A D (by omega)) (cwV 1 hts gX1_giveBack_X1_moveTo rfl rfl rfl (by decide +kernel) ⟨Nat.le_of_ble_eq_true rfl, Nat.le_of_ble_eq_true rfl⟩) hK hP hD hS hA [0] rfl rfl rfl 0 1 rfl rfl rfl hl.1 rfl (Nat.le_of_ble_eq_true rfl) dX1_giveBack_5 ⟨Nat.le_refl _, Nat.le_refl _⟩ (fun H locs hP hD hS => ?_)
  have hP : va_P G vwCl (cat [dyW cyI A ((D.1, (mvAll D.2.2.2.2.1 D.2.1 D.2.2.2.2.2.1).1, D.2.2.1, D.2.2.2.1, D.2.2.2.2.1, D.2.2.2.2.2.1, D.2.2.2.2.2.2.1, D.2.2.2.2.2.2.2.1, D.2.2.2.2.2.2.2.2.1, D.2.2.2.2.2.2.2.2.2))]) H := hP
  have hD : va_D A9 (cat [dyW cyI A ((D.1, (mvAll D.2.2.2.2.1 D.2.1 D.2.2.2.2.2.1).1, D.2.2.1, D.2.2.2.1, D.2.2.2.2.1, D.2.2.2.2.2.1, D.2.2.2.2.2.2.1, D.2.2.2.2.2.2.2.1, D.2.2.2.2.2.2.2.2.1, D.2.2.2.2.2.2.2.2.2))]) := hD
  refine lv_istore_n (lv' := [(1, .int (nI ((mvAll D.2.2.2.2.1 D.2.1 D.2.2.2.2.2.1).2))), (0, .ref (A 0))]) hx hb dX1_giveBack_8 rfl hl (by decide) rfl (fun ls hl => ?_)
  refine lv_aload_n hx hb dX1_giveBack_9 rfl (lv_at hl 1 rfl) ?_
  refine lv_iconst (v := (0 : Int32)) hx hb dX1_giveBack_10 (by decide) ?_
  have hP : va_P G vwCl (cat [[(A 0, .inr (1, [.ref (A 1), .ref (A 2), .ref (A 3), .ref (A 4), .ref (A 5), .int (nI (D.2.2.2.2.2.1)), .int (D.2.2.2.2.2.2.1), .int (D.2.2.2.2.2.2.2.1), .int (D.2.2.2.2.2.2.2.2.1), .int (D.2.2.2.2.2.2.2.2.2)]))], rowW cyI (A 1) (A 6) (20) (D.1), rowW cyI (A 2) (A 7) (20) ((mvAll D.2.2.2.2.1 D.2.1 D.2.2.2.2.2.1).1), rowW cyI (A 3) (A 8) (6) (D.2.2.1), rowW cyI (A 4) (A 9) (20) (D.2.2.2.1), rowW cyI (A 5) (A 10) (20) (D.2.2.2.2.1)]) H := hP
  have hD : va_D A9 (cat [[(A 0, .inr (1, [.ref (A 1), .ref (A 2), .ref (A 3), .ref (A 4), .ref (A 5), .int (nI (D.2.2.2.2.2.1)), .int (D.2.2.2.2.2.2.1), .int (D.2.2.2.2.2.2.2.1), .int (D.2.2.2.2.2.2.2.2.1), .int (D.2.2.2.2.2.2.2.2.2)]))], rowW cyI (A 1) (A 6) (20) (D.1), rowW cyI (A 2) (A 7) (20) ((mvAll D.2.2.2.2.1 D.2.1 D.2.2.2.2.2.1).1), rowW cyI (A 3) (A 8) (6) (D.2.2.1), rowW cyI (A 4) (A 9) (20) (D.2.2.2.1), rowW cyI (A 5) (A 10) (20) (D.2.2.2.2.1)]) := hD
  refine va_put (v := .int ((0 : Int32))) (ty := .int) (C := RX1) (T := TX1) (N := 10) hx hb hts hinX1 tyX1 tyX1_ok nmX1 hown hK hP hD hS 0 rfl rfl 6 (by decide) hf36 (fun _ h9 => h9) rfl (by first | rfl | decide +kernel) rfl rfl (Nat.le_of_ble_eq_true rfl) dX1_giveBack_11 (fun H locs hP hD hS => ?_)
  have hP : va_P G vwCl (cat [[(A 0, .inr (1, [.ref (A 1), .ref (A 2), .ref (A 3), .ref (A 4), .ref (A 5), .int (nI (D.2.2.2.2.2.1)), .int ((0 : Int32)), .int (D.2.2.2.2.2.2.2.1), .int (D.2.2.2.2.2.2.2.2.1), .int (D.2.2.2.2.2.2.2.2.2)]))], rowW cyI (A 1) (A 6) (20) (D.1), rowW cyI (A 2) (A 7) (20) ((mvAll D.2.2.2.2.1 D.2.1 D.2.2.2.2.2.1).1), rowW cyI (A 3) (A 8) (6) (D.2.2.1), rowW cyI (A 4) (A 9) (20) (D.2.2.2.1), rowW cyI (A 5) (A 10) (20) (D.2.2.2.2.1)]) H := hP
  have hD : va_D A9 (cat [[(A 0, .inr (1, [.ref (A 1), .ref (A 2), .ref (A 3), .ref (A 4), .ref (A 5), .int (nI (D.2.2.2.2.2.1)), .int ((0 : Int32)), .int (D.2.2.2.2.2.2.2.1), .int (D.2.2.2.2.2.2.2.2.1), .int (D.2.2.2.2.2.2.2.2.2)]))], rowW cyI (A 1) (A 6) (20) (D.1), rowW cyI (A 2) (A 7) (20) ((mvAll D.2.2.2.2.1 D.2.1 D.2.2.2.2.2.1).1), rowW cyI (A 3) (A 8) (6) (D.2.2.1), rowW cyI (A 4) (A 9) (20) (D.2.2.2.1), rowW cyI (A 5) (A 10) (20) (D.2.2.2.2.1)]) := hD
  refine lv_iload_n hx hb dX1_giveBack_14 rfl (lv_at hl 0 rfl) ?_
  have hP : va_P G vwCl (cat [dyW cyI A ((D.1, (mvAll D.2.2.2.2.1 D.2.1 D.2.2.2.2.2.1).1, D.2.2.1, D.2.2.2.1, D.2.2.2.2.1, D.2.2.2.2.2.1, 0, D.2.2.2.2.2.2.2.1, D.2.2.2.2.2.2.2.2.1, D.2.2.2.2.2.2.2.2.2))]) H := hP
  have hD : va_D A9 (cat [dyW cyI A ((D.1, (mvAll D.2.2.2.2.1 D.2.1 D.2.2.2.2.2.1).1, D.2.2.1, D.2.2.2.1, D.2.2.2.2.1, D.2.2.2.2.2.1, 0, D.2.2.2.2.2.2.2.1, D.2.2.2.2.2.2.2.2.1, D.2.2.2.2.2.2.2.2.2))]) := hD
  exact end_i hx hb hr hlocks hK hP hD hS (rfl) dX1_giveBack_15
abbrev rm_X1_doNextStep : Room := { frames := 3, cells := 0, slots := 0, locals := 66 }
set_option maxHeartbeats 4000000 in
set_option maxRecDepth 100000 in
theorem c_X1_doNextStep (l : Launch) (G : va_G) (cyI cyO : ClassId) (A : Nat → Nat) (D : DS) (hn : D.2.2.2.2.2.1 ≤ 20) : CI l G (TY cyI cyO) yX1_doNextStep wsX1_doNextStep rm_X1_doNextStep [.ref (A 0)] [dyW cyI A D] (nI (dNextR D)) [dyW cyI A (dNext D)] := by
  refine wk_I (cc := cX1_doNextStep) (maxL := 1) (ret := (some .int)) (by decide) rfl (Nat.le_of_ble_eq_true rfl) ?_
  intro p9 e9 s9 m9 b9 t9 c9 A9 ls hx hb hr hts hown hlocks hml hK hA hD hP hl hS hnm
  have hl : lv_has ls 1 [(0, .ref (A 0))] := hl
  have hinX1 : ∀ w ∈ wsX10, w ∈ wsX1_doNextStep := by decide +kernel
  have hf36 := hts (.fieldLink RX1 36 "DoorstepRounds$Dairy" "step" "I") (by decide +kernel)
  refine lv_aload_n hx hb dX1_doNextStep_0 rfl (lv_at hl 0 rfl) ?_
  refine va_get (v := .int (D.2.2.2.2.2.2.1)) (C := RX1) (T := TX1) (N := 10) hx hb hts hinX1 hown hK hP 0 rfl rfl 6 (by decide) hf36 (fun _ h9 => h9) rfl dX1_doNextStep_1 ?_
  refine lv_iconst (v := (1 : Int32)) hx hb dX1_doNextStep_4 (by decide) ?_
  refine lv_icmp_ne (tgt := 15) hx hb dX1_doNextStep_5 (by decide) (fun c_5 => ?_) (fun c_5 => ?_)
  · refine lv_aload_n hx hb dX1_doNextStep_15 rfl (lv_at hl 0 rfl) ?_
    refine gVi (gs := [dyW cyI A D]) (As := []) (rest := []) ⟨hx, hb, hml, hown, hts⟩ (c_X1_takeOver l G cyI cyO A D (by omega)) (cwV 0 hts gX1_doNextStep_X1_takeOver rfl rfl rfl (by decide +kernel) ⟨Nat.le_of_ble_eq_true rfl, Nat.le_of_ble_eq_true rfl⟩) hK hP hD hS hA [0] rfl rfl rfl 0 1 rfl rfl rfl hl.1 rfl (Nat.le_of_ble_eq_true rfl) dX1_doNextStep_16 ⟨Nat.le_refl _, Nat.le_refl _⟩ (fun H locs hP hD hS => ?_)
    have hP : va_P G vwCl (cat [dyW cyI A (dTake D)]) H := hP
    have hD : va_D A9 (cat [dyW cyI A (dTake D)]) := hD
    have hgo : cat [dyW cyI A (dTake D)] = cat [dyW cyI A (dNext D)] := by simp [dNext, dGive, c_5]
    rw [hgo] at hP hD
    have hP : va_P G vwCl (cat [dyW cyI A (dNext D)]) H := hP
    have hD : va_D A9 (cat [dyW cyI A (dNext D)]) := hD
    exact end_i hx hb hr hlocks hK hP hD hS (by simp [dNextR, c_5]) dX1_doNextStep_19
  · refine lv_aload_n hx hb dX1_doNextStep_8 rfl (lv_at hl 0 rfl) ?_
    refine gVi (gs := [dyW cyI A D]) (As := []) (rest := []) ⟨hx, hb, hml, hown, hts⟩ (c_X1_giveUp l G cyI cyO A D (by omega)) (cwV 0 hts gX1_doNextStep_X1_giveUp rfl rfl rfl (by decide +kernel) ⟨Nat.le_of_ble_eq_true rfl, Nat.le_of_ble_eq_true rfl⟩) hK hP hD hS hA [0] rfl rfl rfl 0 1 rfl rfl rfl hl.1 rfl (Nat.le_of_ble_eq_true rfl) dX1_doNextStep_9 ⟨Nat.le_refl _, Nat.le_refl _⟩ (fun H locs hP hD hS => ?_)
    have hP : va_P G vwCl (cat [dyW cyI A ((D.1, (guAll D.2.2.2.1 D.2.1 D.2.2.2.2.2.1).1, D.2.2.1, D.2.2.2.1, D.2.2.2.2.1, D.2.2.2.2.2.1, 2, D.2.2.2.2.2.2.2.1, D.2.2.2.2.2.2.2.2.1, D.2.2.2.2.2.2.2.2.2))]) H := hP
    have hD : va_D A9 (cat [dyW cyI A ((D.1, (guAll D.2.2.2.1 D.2.1 D.2.2.2.2.2.1).1, D.2.2.1, D.2.2.2.1, D.2.2.2.2.1, D.2.2.2.2.2.1, 2, D.2.2.2.2.2.2.2.1, D.2.2.2.2.2.2.2.2.1, D.2.2.2.2.2.2.2.2.2))]) := hD
    refine lv_goto (tgt := 19) hx hb dX1_doNextStep_12 (by decide) ?_
    have hgo : cat [dyW cyI A ((D.1, (guAll D.2.2.2.1 D.2.1 D.2.2.2.2.2.1).1, D.2.2.1, D.2.2.2.1, D.2.2.2.2.1, D.2.2.2.2.2.1, 2, D.2.2.2.2.2.2.2.1, D.2.2.2.2.2.2.2.2.1, D.2.2.2.2.2.2.2.2.2))] = cat [dyW cyI A (dNext D)] := by simp [dNext, dGive, c_5]
    rw [hgo] at hP hD
    have hP : va_P G vwCl (cat [dyW cyI A (dNext D)]) H := hP
    have hD : va_D A9 (cat [dyW cyI A (dNext D)]) := hD
    exact end_i hx hb hr hlocks hK hP hD hS (by simp [dNextR, c_5]) dX1_doNextStep_19
abbrev rm_X1_plannedOwner : Room := { frames := 1, cells := 0, slots := 0, locals := 21 }
set_option maxHeartbeats 4000000 in
set_option maxRecDepth 100000 in
theorem c_X1_plannedOwner (l : Launch) (G : va_G) (cyI cyO : ClassId) (A : Nat → Nat) (D : DS) (k : Nat) (hk : k < 20) : CI l G (TY cyI cyO) yX1_plannedOwner wsX1_plannedOwner rm_X1_plannedOwner [.ref (A 0), .int (nI (k))] [dyW cyI A D] (dPlan D k) [dyW cyI A D] := by
  refine wk_I (cc := cX1_plannedOwner) (maxL := 2) (ret := (some .int)) (by decide) rfl (Nat.le_of_ble_eq_true rfl) ?_
  intro p9 e9 s9 m9 b9 t9 c9 A9 ls hx hb hr hts hown hlocks hml hK hA hD hP hl hS hnm
  have hl : lv_has ls 2 [(0, .ref (A 0)), (1, .int (nI (k)))] := hl
  have hinX1 : ∀ w ∈ wsX10, w ∈ wsX1_plannedOwner := by decide +kernel
  have hf20 := hts (.fieldLink RX1 20 "DoorstepRounds$Dairy" "owners" "LDoorstepRounds$Row;") (by decide +kernel)
  have hf26 := hts (.fieldLink RX1 26 "DoorstepRounds$Dairy" "newOwners" "LDoorstepRounds$Row;") (by decide +kernel)
  refine lv_aload_n hx hb dX1_plannedOwner_0 rfl (lv_at hl 0 rfl) ?_
  refine gVi (gs := [dyW cyI A D]) (As := []) (rest := []) ⟨hx, hb, hml, hown, hts⟩ (c_X1_isHandingOver l G cyI cyO A D) (cwV 0 hts gX1_plannedOwner_X1_isHandingOver rfl rfl rfl (by decide +kernel) ⟨Nat.le_of_ble_eq_true rfl, Nat.le_of_ble_eq_true rfl⟩) hK hP hD hS hA [0] rfl rfl rfl 0 1 rfl rfl rfl hl.1 rfl (Nat.le_of_ble_eq_true rfl) dX1_plannedOwner_1 ⟨Nat.le_refl _, Nat.le_refl _⟩ (fun H locs hP hD hS => ?_)
  have hP : va_P G vwCl (cat [dyW cyI A D]) H := hP
  have hD : va_D A9 (cat [dyW cyI A D]) := hD
  refine lv_if_eq (tgt := 18) hx hb dX1_plannedOwner_4 (by decide) (fun c_4 => ?_) (fun c_4 => ?_)
  · have c_4 : (dHO D) = false := bI_z.mp c_4
    refine lv_aload_n hx hb dX1_plannedOwner_18 rfl (lv_at hl 0 rfl) ?_
    refine va_get (v := .ref (A 2)) (C := RX1) (T := TX1) (N := 10) hx hb hts hinX1 hown hK hP 0 rfl rfl 1 (by decide) hf20 (fun _ h9 => h9) rfl dX1_plannedOwner_19 ?_
    refine lv_iload_n hx hb dX1_plannedOwner_22 rfl (lv_at hl 1 rfl) ?_
    have hP : va_P G vwCl (cat [[(A 0, .inr (1, [.ref (A 1), .ref (A 2), .ref (A 3), .ref (A 4), .ref (A 5), .int (nI (D.2.2.2.2.2.1)), .int (D.2.2.2.2.2.2.1), .int (D.2.2.2.2.2.2.2.1), .int (D.2.2.2.2.2.2.2.2.1), .int (D.2.2.2.2.2.2.2.2.2)]))], rowW cyI (A 1) (A 6) (20) (D.1), rowW cyI (A 2) (A 7) (20) (D.2.1), rowW cyI (A 3) (A 8) (6) (D.2.2.1), rowW cyI (A 4) (A 9) (20) (D.2.2.2.1), rowW cyI (A 5) (A 10) (20) (D.2.2.2.2.1)]) H := hP
    have hD : va_D A9 (cat [[(A 0, .inr (1, [.ref (A 1), .ref (A 2), .ref (A 3), .ref (A 4), .ref (A 5), .int (nI (D.2.2.2.2.2.1)), .int (D.2.2.2.2.2.2.1), .int (D.2.2.2.2.2.2.2.1), .int (D.2.2.2.2.2.2.2.2.1), .int (D.2.2.2.2.2.2.2.2.2)]))], rowW cyI (A 1) (A 6) (20) (D.1), rowW cyI (A 2) (A 7) (20) (D.2.1), rowW cyI (A 3) (A 8) (6) (D.2.2.1), rowW cyI (A 4) (A 9) (20) (D.2.2.2.1), rowW cyI (A 5) (A 10) (20) (D.2.2.2.2.1)]) := hD
    refine gVi (gs := [[(A 0, .inr (1, [.ref (A 1), .ref (A 2), .ref (A 3), .ref (A 4), .ref (A 5), .int (nI (D.2.2.2.2.2.1)), .int (D.2.2.2.2.2.2.1), .int (D.2.2.2.2.2.2.2.1), .int (D.2.2.2.2.2.2.2.2.1), .int (D.2.2.2.2.2.2.2.2.2)]))], rowW cyI (A 1) (A 6) (20) (D.1), rowW cyI (A 2) (A 7) (20) (D.2.1), rowW cyI (A 3) (A 8) (6) (D.2.2.1), rowW cyI (A 4) (A 9) (20) (D.2.2.2.1), rowW cyI (A 5) (A 10) (20) (D.2.2.2.2.1)]) (As := [.int (nI (k))]) (rest := []) ⟨hx, hb, hml, hown, hts⟩ (c_X3_at l G cyI cyO (A 2) (A 7) 20 D.2.1 (nI (k)) (by omega)) (cwV 1 hts gX1_plannedOwner_X3_at rfl rfl rfl (by decide +kernel) ⟨Nat.le_of_ble_eq_true rfl, Nat.le_of_ble_eq_true rfl⟩) hK hP hD hS hA [2] rfl rfl rfl 0 3 rfl rfl rfl hl.1 rfl (Nat.le_of_ble_eq_true rfl) dX1_plannedOwner_23 ⟨Nat.le_refl _, Nat.le_refl _⟩ (fun H locs hP hD hS => ?_)
    have hP : va_P G vwCl (cat [[(A 0, .inr (1, [.ref (A 1), .ref (A 2), .ref (A 3), .ref (A 4), .ref (A 5), .int (nI (D.2.2.2.2.2.1)), .int (D.2.2.2.2.2.2.1), .int (D.2.2.2.2.2.2.2.1), .int (D.2.2.2.2.2.2.2.2.1), .int (D.2.2.2.2.2.2.2.2.2)]))], rowW cyI (A 1) (A 6) (20) (D.1), rowW cyI (A 2) (A 7) (20) (D.2.1), rowW cyI (A 3) (A 8) (6) (D.2.2.1), rowW cyI (A 4) (A 9) (20) (D.2.2.2.1), rowW cyI (A 5) (A 10) (20) (D.2.2.2.2.1)]) H := hP
    have hD : va_D A9 (cat [[(A 0, .inr (1, [.ref (A 1), .ref (A 2), .ref (A 3), .ref (A 4), .ref (A 5), .int (nI (D.2.2.2.2.2.1)), .int (D.2.2.2.2.2.2.1), .int (D.2.2.2.2.2.2.2.1), .int (D.2.2.2.2.2.2.2.2.1), .int (D.2.2.2.2.2.2.2.2.2)]))], rowW cyI (A 1) (A 6) (20) (D.1), rowW cyI (A 2) (A 7) (20) (D.2.1), rowW cyI (A 3) (A 8) (6) (D.2.2.1), rowW cyI (A 4) (A 9) (20) (D.2.2.2.1), rowW cyI (A 5) (A 10) (20) (D.2.2.2.2.1)]) := hD
    refine top_i (x' := D.2.1 k) (rowAt_in (by omega) (by omega)) ?_
    have hP : va_P G vwCl (cat [dyW cyI A D]) H := hP
    have hD : va_D A9 (cat [dyW cyI A D]) := hD
    exact end_i hx hb hr hlocks hK hP hD hS (by simp [dPlan, c_4]) dX1_plannedOwner_26
  · have c_4 : (dHO D) = true := bI_nz.mp c_4
    refine lv_aload_n hx hb dX1_plannedOwner_7 rfl (lv_at hl 0 rfl) ?_
    refine va_get (v := .ref (A 4)) (C := RX1) (T := TX1) (N := 10) hx hb hts hinX1 hown hK hP 0 rfl rfl 3 (by decide) hf26 (fun _ h9 => h9) rfl dX1_plannedOwner_8 ?_
    refine lv_iload_n hx hb dX1_plannedOwner_11 rfl (lv_at hl 1 rfl) ?_
    have hP : va_P G vwCl (cat [[(A 0, .inr (1, [.ref (A 1), .ref (A 2), .ref (A 3), .ref (A 4), .ref (A 5), .int (nI (D.2.2.2.2.2.1)), .int (D.2.2.2.2.2.2.1), .int (D.2.2.2.2.2.2.2.1), .int (D.2.2.2.2.2.2.2.2.1), .int (D.2.2.2.2.2.2.2.2.2)]))], rowW cyI (A 1) (A 6) (20) (D.1), rowW cyI (A 2) (A 7) (20) (D.2.1), rowW cyI (A 3) (A 8) (6) (D.2.2.1), rowW cyI (A 4) (A 9) (20) (D.2.2.2.1), rowW cyI (A 5) (A 10) (20) (D.2.2.2.2.1)]) H := hP
    have hD : va_D A9 (cat [[(A 0, .inr (1, [.ref (A 1), .ref (A 2), .ref (A 3), .ref (A 4), .ref (A 5), .int (nI (D.2.2.2.2.2.1)), .int (D.2.2.2.2.2.2.1), .int (D.2.2.2.2.2.2.2.1), .int (D.2.2.2.2.2.2.2.2.1), .int (D.2.2.2.2.2.2.2.2.2)]))], rowW cyI (A 1) (A 6) (20) (D.1), rowW cyI (A 2) (A 7) (20) (D.2.1), rowW cyI (A 3) (A 8) (6) (D.2.2.1), rowW cyI (A 4) (A 9) (20) (D.2.2.2.1), rowW cyI (A 5) (A 10) (20) (D.2.2.2.2.1)]) := hD
    refine gVi (gs := [[(A 0, .inr (1, [.ref (A 1), .ref (A 2), .ref (A 3), .ref (A 4), .ref (A 5), .int (nI (D.2.2.2.2.2.1)), .int (D.2.2.2.2.2.2.1), .int (D.2.2.2.2.2.2.2.1), .int (D.2.2.2.2.2.2.2.2.1), .int (D.2.2.2.2.2.2.2.2.2)]))], rowW cyI (A 1) (A 6) (20) (D.1), rowW cyI (A 2) (A 7) (20) (D.2.1), rowW cyI (A 3) (A 8) (6) (D.2.2.1), rowW cyI (A 4) (A 9) (20) (D.2.2.2.1), rowW cyI (A 5) (A 10) (20) (D.2.2.2.2.1)]) (As := [.int (nI (k))]) (rest := []) ⟨hx, hb, hml, hown, hts⟩ (c_X3_at l G cyI cyO (A 4) (A 9) 20 D.2.2.2.1 (nI (k)) (by omega)) (cwV 1 hts gX1_plannedOwner_X3_at rfl rfl rfl (by decide +kernel) ⟨Nat.le_of_ble_eq_true rfl, Nat.le_of_ble_eq_true rfl⟩) hK hP hD hS hA [4] rfl rfl rfl 0 3 rfl rfl rfl hl.1 rfl (Nat.le_of_ble_eq_true rfl) dX1_plannedOwner_12 ⟨Nat.le_refl _, Nat.le_refl _⟩ (fun H locs hP hD hS => ?_)
    have hP : va_P G vwCl (cat [[(A 0, .inr (1, [.ref (A 1), .ref (A 2), .ref (A 3), .ref (A 4), .ref (A 5), .int (nI (D.2.2.2.2.2.1)), .int (D.2.2.2.2.2.2.1), .int (D.2.2.2.2.2.2.2.1), .int (D.2.2.2.2.2.2.2.2.1), .int (D.2.2.2.2.2.2.2.2.2)]))], rowW cyI (A 1) (A 6) (20) (D.1), rowW cyI (A 2) (A 7) (20) (D.2.1), rowW cyI (A 3) (A 8) (6) (D.2.2.1), rowW cyI (A 4) (A 9) (20) (D.2.2.2.1), rowW cyI (A 5) (A 10) (20) (D.2.2.2.2.1)]) H := hP
    have hD : va_D A9 (cat [[(A 0, .inr (1, [.ref (A 1), .ref (A 2), .ref (A 3), .ref (A 4), .ref (A 5), .int (nI (D.2.2.2.2.2.1)), .int (D.2.2.2.2.2.2.1), .int (D.2.2.2.2.2.2.2.1), .int (D.2.2.2.2.2.2.2.2.1), .int (D.2.2.2.2.2.2.2.2.2)]))], rowW cyI (A 1) (A 6) (20) (D.1), rowW cyI (A 2) (A 7) (20) (D.2.1), rowW cyI (A 3) (A 8) (6) (D.2.2.1), rowW cyI (A 4) (A 9) (20) (D.2.2.2.1), rowW cyI (A 5) (A 10) (20) (D.2.2.2.2.1)]) := hD
    refine top_i (x' := D.2.2.2.1 k) (rowAt_in (by omega) (by omega)) ?_
    refine lv_goto (tgt := 26) hx hb dX1_plannedOwner_15 (by decide) ?_
    have hP : va_P G vwCl (cat [dyW cyI A D]) H := hP
    have hD : va_D A9 (cat [dyW cyI A D]) := hD
    exact end_i hx hb hr hlocks hK hP hD hS (by simp [dPlan, c_4]) dX1_plannedOwner_26
abbrev rm_X1_bringMilk : Room := { frames := 1, cells := 0, slots := 0, locals := 21 }
set_option maxHeartbeats 4000000 in
set_option maxRecDepth 100000 in
theorem c_X1_bringMilk (l : Launch) (G : va_G) (cyI cyO : ClassId) (A : Nat → Nat) (D : DS) (hn : D.2.2.2.2.2.1 ≤ 20) : CI l G (TY cyI cyO) yX1_bringMilk wsX1_bringMilk rm_X1_bringMilk [.ref (A 0)] [dyW cyI A D] ((bmAll D.1 D.2.1 D.2.2.2.2.2.2.2.2.2 D.2.2.2.2.2.1).1) [dyW cyI A ((D.1, D.2.1, D.2.2.1, D.2.2.2.1, D.2.2.2.2.1, D.2.2.2.2.2.1, D.2.2.2.2.2.2.1, D.2.2.2.2.2.2.2.1, D.2.2.2.2.2.2.2.2.1 + (bmAll D.1 D.2.1 D.2.2.2.2.2.2.2.2.2 D.2.2.2.2.2.1).1, (bmAll D.1 D.2.1 D.2.2.2.2.2.2.2.2.2 D.2.2.2.2.2.1).2))] := by
  refine wk_I (cc := cX1_bringMilk) (maxL := 3) (ret := (some .int)) (by decide) rfl (Nat.le_of_ble_eq_true rfl) ?_
  intro p9 e9 s9 m9 b9 t9 c9 A9 ls hx hb hr hts hown hlocks hml hK hA hD hP hl hS hnm
  have hl : lv_has ls 3 [(0, .ref (A 0))] := hl
  have hinX1 : ∀ w ∈ wsX10, w ∈ wsX1_bringMilk := by decide +kernel
  have hf14 := hts (.fieldLink RX1 14 "DoorstepRounds$Dairy" "pints" "LDoorstepRounds$Row;") (by decide +kernel)
  have hf20 := hts (.fieldLink RX1 20 "DoorstepRounds$Dairy" "owners" "LDoorstepRounds$Row;") (by decide +kernel)
  have hf32 := hts (.fieldLink RX1 32 "DoorstepRounds$Dairy" "count" "I") (by decide +kernel)
  have hf42 := hts (.fieldLink RX1 42 "DoorstepRounds$Dairy" "pintsBrought" "I") (by decide +kernel)
  have hf45 := hts (.fieldLink RX1 45 "DoorstepRounds$Dairy" "missed" "I") (by decide +kernel)
  have hP : va_P G vwCl (cat [[(A 0, .inr (1, [.ref (A 1), .ref (A 2), .ref (A 3), .ref (A 4), .ref (A 5), .int (nI (D.2.2.2.2.2.1)), .int (D.2.2.2.2.2.2.1), .int (D.2.2.2.2.2.2.2.1), .int (D.2.2.2.2.2.2.2.2.1), .int (D.2.2.2.2.2.2.2.2.2)]))], rowW cyI (A 1) (A 6) (20) (D.1), rowW cyI (A 2) (A 7) (20) (D.2.1), rowW cyI (A 3) (A 8) (6) (D.2.2.1), rowW cyI (A 4) (A 9) (20) (D.2.2.2.1), rowW cyI (A 5) (A 10) (20) (D.2.2.2.2.1)]) s9.heap := hP
  have hD : va_D A9 (cat [[(A 0, .inr (1, [.ref (A 1), .ref (A 2), .ref (A 3), .ref (A 4), .ref (A 5), .int (nI (D.2.2.2.2.2.1)), .int (D.2.2.2.2.2.2.1), .int (D.2.2.2.2.2.2.2.1), .int (D.2.2.2.2.2.2.2.2.1), .int (D.2.2.2.2.2.2.2.2.2)]))], rowW cyI (A 1) (A 6) (20) (D.1), rowW cyI (A 2) (A 7) (20) (D.2.1), rowW cyI (A 3) (A 8) (6) (D.2.2.1), rowW cyI (A 4) (A 9) (20) (D.2.2.2.1), rowW cyI (A 5) (A 10) (20) (D.2.2.2.2.1)]) := hD
  refine lv_iconst (v := (0 : Int32)) hx hb dX1_bringMilk_0 (by decide) ?_
  refine lv_istore_n (lv' := [(1, .int ((0 : Int32))), (0, .ref (A 0))]) hx hb dX1_bringMilk_1 rfl hl (by decide) rfl (fun ls hl => ?_)
  refine lv_iconst (v := (0 : Int32)) hx hb dX1_bringMilk_2 (by decide) ?_
  refine lv_istore_n (lv' := [(2, .int ((0 : Int32))), (1, .int ((0 : Int32))), (0, .ref (A 0))]) hx hb dX1_bringMilk_3 rfl hl (by decide) rfl (fun ls hl => ?_)
  refine W_loop (α := Nat × Int32 × Int32) (I := fun a9 H locs ls => (a9.1 ≤ D.2.2.2.2.2.1) ∧ ((a9.2.1, a9.2.2) = itr a9.1 (bmStep D.1 D.2.1) (0, D.2.2.2.2.2.2.2.2.2)) ∧ va_P G vwCl (cat [[(A 0, .inr (1, [.ref (A 1), .ref (A 2), .ref (A 3), .ref (A 4), .ref (A 5), .int (nI (D.2.2.2.2.2.1)), .int (D.2.2.2.2.2.2.1), .int (D.2.2.2.2.2.2.2.1), .int (D.2.2.2.2.2.2.2.2.1), .int (a9.2.2)]))], rowW cyI (A 1) (A 6) (20) (D.1), rowW cyI (A 2) (A 7) (20) (D.2.1), rowW cyI (A 3) (A 8) (6) (D.2.2.1), rowW cyI (A 4) (A 9) (20) (D.2.2.2.1), rowW cyI (A 5) (A 10) (20) (D.2.2.2.2.1)]) H ∧ va_D A9 (cat [[(A 0, .inr (1, [.ref (A 1), .ref (A 2), .ref (A 3), .ref (A 4), .ref (A 5), .int (nI (D.2.2.2.2.2.1)), .int (D.2.2.2.2.2.2.1), .int (D.2.2.2.2.2.2.2.1), .int (D.2.2.2.2.2.2.2.2.1), .int (a9.2.2)]))], rowW cyI (A 1) (A 6) (20) (D.1), rowW cyI (A 2) (A 7) (20) (D.2.1), rowW cyI (A 3) (A 8) (6) (D.2.2.1), rowW cyI (A 4) (A 9) (20) (D.2.2.2.1), rowW cyI (A 5) (A 10) (20) (D.2.2.2.2.1)]) ∧ va_S A9 s9.heap H locs ∧ lv_has ls 3 [(2, .int (nI (a9.1))), (1, .int (a9.2.1)), (0, .ref (A 0))]) (μ := fun a9 => D.2.2.2.2.2.1 - a9.1) (st := fun a9 => []) ?_ (0, 0, D.2.2.2.2.2.2.2.2.2) _ _ _ ⟨(show 0 ≤ D.2.2.2.2.2.1 from by omega), (show (0, D.2.2.2.2.2.2.2.2.2) = itr 0 (bmStep D.1 D.2.1) (0, D.2.2.2.2.2.2.2.2.2) from rfl), hP, hD, hS, lv_sub hl [0, 1, 2] rfl⟩
  intro a9 ih_4 H locs ls hI
  obtain ⟨i, x, w⟩ := a9
  obtain ⟨hi9, he9, hP9, hD9, hS9, hl9⟩ := hI
  have hi : i ≤ D.2.2.2.2.2.1 := hi9
  have he : (x, w) = itr i (bmStep D.1 D.2.1) (0, D.2.2.2.2.2.2.2.2.2) := he9
  have hP : va_P G vwCl (cat [[(A 0, .inr (1, [.ref (A 1), .ref (A 2), .ref (A 3), .ref (A 4), .ref (A 5), .int (nI (D.2.2.2.2.2.1)), .int (D.2.2.2.2.2.2.1), .int (D.2.2.2.2.2.2.2.1), .int (D.2.2.2.2.2.2.2.2.1), .int (w)]))], rowW cyI (A 1) (A 6) (20) (D.1), rowW cyI (A 2) (A 7) (20) (D.2.1), rowW cyI (A 3) (A 8) (6) (D.2.2.1), rowW cyI (A 4) (A 9) (20) (D.2.2.2.1), rowW cyI (A 5) (A 10) (20) (D.2.2.2.2.1)]) H := hP9
  have hD : va_D A9 (cat [[(A 0, .inr (1, [.ref (A 1), .ref (A 2), .ref (A 3), .ref (A 4), .ref (A 5), .int (nI (D.2.2.2.2.2.1)), .int (D.2.2.2.2.2.2.1), .int (D.2.2.2.2.2.2.2.1), .int (D.2.2.2.2.2.2.2.2.1), .int (w)]))], rowW cyI (A 1) (A 6) (20) (D.1), rowW cyI (A 2) (A 7) (20) (D.2.1), rowW cyI (A 3) (A 8) (6) (D.2.2.1), rowW cyI (A 4) (A 9) (20) (D.2.2.2.1), rowW cyI (A 5) (A 10) (20) (D.2.2.2.2.1)]) := hD9
  have hS := hS9
  have hl : lv_has ls 3 [(2, .int (nI (i))), (1, .int (x)), (0, .ref (A 0))] := hl9
  clear hi9 he9 hP9 hD9 hS9 hl9
  refine lv_iload_n hx hb dX1_bringMilk_4 rfl (lv_at hl 0 rfl) ?_
  refine lv_aload_n hx hb dX1_bringMilk_5 rfl (lv_at hl 2 rfl) ?_
  refine va_get (v := .int (nI (D.2.2.2.2.2.1))) (C := RX1) (T := TX1) (N := 10) hx hb hts hinX1 hown hK hP 0 rfl rfl 5 (by decide) hf32 (fun _ h9 => h9) rfl dX1_bringMilk_6 ?_
  refine lv_icmp_ge (tgt := 54) hx hb dX1_bringMilk_9 (by decide) (fun c_9 => ?_) (fun c_9 => ?_)
  · have c_9 : (D.2.2.2.2.2.1) ≤ (i) := (nI_leI (a := D.2.2.2.2.2.1) (b := i) (by omega) (by omega)).mp c_9
    obtain rfl : D.2.2.2.2.2.1 = i := by omega
    have e1 : x = (bmAll D.1 D.2.1 D.2.2.2.2.2.2.2.2.2 D.2.2.2.2.2.1).1 := congrArg Prod.fst he
    have e2 : w = (bmAll D.1 D.2.1 D.2.2.2.2.2.2.2.2.2 D.2.2.2.2.2.1).2 := congrArg Prod.snd he
    subst e1 e2
    refine lv_aload_n hx hb dX1_bringMilk_54 rfl (lv_at hl 2 rfl) ?_
    refine lv_dup hx hb dX1_bringMilk_55 rfl ?_
    refine va_get (v := .int (D.2.2.2.2.2.2.2.2.1)) (C := RX1) (T := TX1) (N := 10) hx hb hts hinX1 hown hK hP 0 rfl rfl 8 (by decide) hf42 (fun _ h9 => h9) rfl dX1_bringMilk_56 ?_
    refine lv_iload_n hx hb dX1_bringMilk_59 rfl (lv_at hl 1 rfl) ?_
    refine lv_iadd hx hb dX1_bringMilk_60 ?_
    refine va_put (v := .int (D.2.2.2.2.2.2.2.2.1 + ((bmAll D.1 D.2.1 D.2.2.2.2.2.2.2.2.2 D.2.2.2.2.2.1).1))) (ty := .int) (C := RX1) (T := TX1) (N := 10) hx hb hts hinX1 tyX1 tyX1_ok nmX1 hown hK hP hD hS 0 rfl rfl 8 (by decide) hf42 (fun _ h9 => h9) rfl (by first | rfl | decide +kernel) rfl rfl (Nat.le_of_ble_eq_true rfl) dX1_bringMilk_61 (fun H locs hP hD hS => ?_)
    have hP : va_P G vwCl (cat [[(A 0, .inr (1, [.ref (A 1), .ref (A 2), .ref (A 3), .ref (A 4), .ref (A 5), .int (nI (D.2.2.2.2.2.1)), .int (D.2.2.2.2.2.2.1), .int (D.2.2.2.2.2.2.2.1), .int (D.2.2.2.2.2.2.2.2.1 + ((bmAll D.1 D.2.1 D.2.2.2.2.2.2.2.2.2 D.2.2.2.2.2.1).1)), .int ((bmAll D.1 D.2.1 D.2.2.2.2.2.2.2.2.2 D.2.2.2.2.2.1).2)]))], rowW cyI (A 1) (A 6) (20) (D.1), rowW cyI (A 2) (A 7) (20) (D.2.1), rowW cyI (A 3) (A 8) (6) (D.2.2.1), rowW cyI (A 4) (A 9) (20) (D.2.2.2.1), rowW cyI (A 5) (A 10) (20) (D.2.2.2.2.1)]) H := hP
    have hD : va_D A9 (cat [[(A 0, .inr (1, [.ref (A 1), .ref (A 2), .ref (A 3), .ref (A 4), .ref (A 5), .int (nI (D.2.2.2.2.2.1)), .int (D.2.2.2.2.2.2.1), .int (D.2.2.2.2.2.2.2.1), .int (D.2.2.2.2.2.2.2.2.1 + ((bmAll D.1 D.2.1 D.2.2.2.2.2.2.2.2.2 D.2.2.2.2.2.1).1)), .int ((bmAll D.1 D.2.1 D.2.2.2.2.2.2.2.2.2 D.2.2.2.2.2.1).2)]))], rowW cyI (A 1) (A 6) (20) (D.1), rowW cyI (A 2) (A 7) (20) (D.2.1), rowW cyI (A 3) (A 8) (6) (D.2.2.1), rowW cyI (A 4) (A 9) (20) (D.2.2.2.1), rowW cyI (A 5) (A 10) (20) (D.2.2.2.2.1)]) := hD
    refine lv_iload_n hx hb dX1_bringMilk_64 rfl (lv_at hl 1 rfl) ?_
    have hP : va_P G vwCl (cat [dyW cyI A ((D.1, D.2.1, D.2.2.1, D.2.2.2.1, D.2.2.2.2.1, D.2.2.2.2.2.1, D.2.2.2.2.2.2.1, D.2.2.2.2.2.2.2.1, D.2.2.2.2.2.2.2.2.1 + (bmAll D.1 D.2.1 D.2.2.2.2.2.2.2.2.2 D.2.2.2.2.2.1).1, (bmAll D.1 D.2.1 D.2.2.2.2.2.2.2.2.2 D.2.2.2.2.2.1).2))]) H := hP
    have hD : va_D A9 (cat [dyW cyI A ((D.1, D.2.1, D.2.2.1, D.2.2.2.1, D.2.2.2.2.1, D.2.2.2.2.2.1, D.2.2.2.2.2.2.1, D.2.2.2.2.2.2.2.1, D.2.2.2.2.2.2.2.2.1 + (bmAll D.1 D.2.1 D.2.2.2.2.2.2.2.2.2 D.2.2.2.2.2.1).1, (bmAll D.1 D.2.1 D.2.2.2.2.2.2.2.2.2 D.2.2.2.2.2.1).2))]) := hD
    exact end_i hx hb hr hlocks hK hP hD hS (rfl) dX1_bringMilk_65
  · have c_9 : ¬ (D.2.2.2.2.2.1) ≤ (i) := fun h9 => c_9 ((nI_leI (a := D.2.2.2.2.2.1) (b := i) (by omega) (by omega)).mpr h9)
    refine lv_aload_n hx hb dX1_bringMilk_12 rfl (lv_at hl 2 rfl) ?_
    refine va_get (v := .ref (A 2)) (C := RX1) (T := TX1) (N := 10) hx hb hts hinX1 hown hK hP 0 rfl rfl 1 (by decide) hf20 (fun _ h9 => h9) rfl dX1_bringMilk_13 ?_
    refine lv_iload_n hx hb dX1_bringMilk_16 rfl (lv_at hl 0 rfl) ?_
    refine gVi (gs := [[(A 0, .inr (1, [.ref (A 1), .ref (A 2), .ref (A 3), .ref (A 4), .ref (A 5), .int (nI (D.2.2.2.2.2.1)), .int (D.2.2.2.2.2.2.1), .int (D.2.2.2.2.2.2.2.1), .int (D.2.2.2.2.2.2.2.2.1), .int (w)]))], rowW cyI (A 1) (A 6) (20) (D.1), rowW cyI (A 2) (A 7) (20) (D.2.1), rowW cyI (A 3) (A 8) (6) (D.2.2.1), rowW cyI (A 4) (A 9) (20) (D.2.2.2.1), rowW cyI (A 5) (A 10) (20) (D.2.2.2.2.1)]) (As := [.int (nI (i))]) (rest := []) ⟨hx, hb, hml, hown, hts⟩ (c_X3_at l G cyI cyO (A 2) (A 7) 20 D.2.1 (nI (i)) (by omega)) (cwV 1 hts gX1_bringMilk_X3_at rfl rfl rfl (by decide +kernel) ⟨Nat.le_of_ble_eq_true rfl, Nat.le_of_ble_eq_true rfl⟩) hK hP hD hS hA [2] rfl rfl rfl 0 3 rfl rfl rfl hl.1 rfl (Nat.le_of_ble_eq_true rfl) dX1_bringMilk_17 ⟨Nat.le_refl _, Nat.le_refl _⟩ (fun H locs hP hD hS => ?_)
    have hP : va_P G vwCl (cat [[(A 0, .inr (1, [.ref (A 1), .ref (A 2), .ref (A 3), .ref (A 4), .ref (A 5), .int (nI (D.2.2.2.2.2.1)), .int (D.2.2.2.2.2.2.1), .int (D.2.2.2.2.2.2.2.1), .int (D.2.2.2.2.2.2.2.2.1), .int (w)]))], rowW cyI (A 1) (A 6) (20) (D.1), rowW cyI (A 2) (A 7) (20) (D.2.1), rowW cyI (A 3) (A 8) (6) (D.2.2.1), rowW cyI (A 4) (A 9) (20) (D.2.2.2.1), rowW cyI (A 5) (A 10) (20) (D.2.2.2.2.1)]) H := hP
    have hD : va_D A9 (cat [[(A 0, .inr (1, [.ref (A 1), .ref (A 2), .ref (A 3), .ref (A 4), .ref (A 5), .int (nI (D.2.2.2.2.2.1)), .int (D.2.2.2.2.2.2.1), .int (D.2.2.2.2.2.2.2.1), .int (D.2.2.2.2.2.2.2.2.1), .int (w)]))], rowW cyI (A 1) (A 6) (20) (D.1), rowW cyI (A 2) (A 7) (20) (D.2.1), rowW cyI (A 3) (A 8) (6) (D.2.2.1), rowW cyI (A 4) (A 9) (20) (D.2.2.2.1), rowW cyI (A 5) (A 10) (20) (D.2.2.2.2.1)]) := hD
    refine top_i (x' := D.2.1 i) (rowAt_in (by omega) (by omega)) ?_
    refine lv_iconst (v := (-1 : Int32)) hx hb dX1_bringMilk_20 (by decide) ?_
    refine lv_icmp_ne (tgt := 37) hx hb dX1_bringMilk_21 (by decide) (fun c_21 => ?_) (fun c_21 => ?_)
    · refine lv_iload_n hx hb dX1_bringMilk_37 rfl (lv_at hl 1 rfl) ?_
      refine lv_aload_n hx hb dX1_bringMilk_38 rfl (lv_at hl 2 rfl) ?_
      refine va_get (v := .ref (A 1)) (C := RX1) (T := TX1) (N := 10) hx hb hts hinX1 hown hK hP 0 rfl rfl 0 (by decide) hf14 (fun _ h9 => h9) rfl dX1_bringMilk_39 ?_
      refine lv_iload_n hx hb dX1_bringMilk_42 rfl (lv_at hl 0 rfl) ?_
      refine gVi (gs := [[(A 0, .inr (1, [.ref (A 1), .ref (A 2), .ref (A 3), .ref (A 4), .ref (A 5), .int (nI (D.2.2.2.2.2.1)), .int (D.2.2.2.2.2.2.1), .int (D.2.2.2.2.2.2.2.1), .int (D.2.2.2.2.2.2.2.2.1), .int (w)]))], rowW cyI (A 1) (A 6) (20) (D.1), rowW cyI (A 2) (A 7) (20) (D.2.1), rowW cyI (A 3) (A 8) (6) (D.2.2.1), rowW cyI (A 4) (A 9) (20) (D.2.2.2.1), rowW cyI (A 5) (A 10) (20) (D.2.2.2.2.1)]) (As := [.int (nI (i))]) (rest := [.int (x)]) ⟨hx, hb, hml, hown, hts⟩ (c_X3_at l G cyI cyO (A 1) (A 6) 20 D.1 (nI (i)) (by omega)) (cwV 1 hts gX1_bringMilk_X3_at rfl rfl rfl (by decide +kernel) ⟨Nat.le_of_ble_eq_true rfl, Nat.le_of_ble_eq_true rfl⟩) hK hP hD hS hA [1] rfl rfl rfl 0 3 rfl rfl rfl hl.1 rfl (Nat.le_of_ble_eq_true rfl) dX1_bringMilk_43 ⟨Nat.le_refl _, Nat.le_refl _⟩ (fun H locs hP hD hS => ?_)
      have hP : va_P G vwCl (cat [[(A 0, .inr (1, [.ref (A 1), .ref (A 2), .ref (A 3), .ref (A 4), .ref (A 5), .int (nI (D.2.2.2.2.2.1)), .int (D.2.2.2.2.2.2.1), .int (D.2.2.2.2.2.2.2.1), .int (D.2.2.2.2.2.2.2.2.1), .int (w)]))], rowW cyI (A 1) (A 6) (20) (D.1), rowW cyI (A 2) (A 7) (20) (D.2.1), rowW cyI (A 3) (A 8) (6) (D.2.2.1), rowW cyI (A 4) (A 9) (20) (D.2.2.2.1), rowW cyI (A 5) (A 10) (20) (D.2.2.2.2.1)]) H := hP
      have hD : va_D A9 (cat [[(A 0, .inr (1, [.ref (A 1), .ref (A 2), .ref (A 3), .ref (A 4), .ref (A 5), .int (nI (D.2.2.2.2.2.1)), .int (D.2.2.2.2.2.2.1), .int (D.2.2.2.2.2.2.2.1), .int (D.2.2.2.2.2.2.2.2.1), .int (w)]))], rowW cyI (A 1) (A 6) (20) (D.1), rowW cyI (A 2) (A 7) (20) (D.2.1), rowW cyI (A 3) (A 8) (6) (D.2.2.1), rowW cyI (A 4) (A 9) (20) (D.2.2.2.1), rowW cyI (A 5) (A 10) (20) (D.2.2.2.2.1)]) := hD
      refine top_i (x' := D.1 i) (rowAt_in (by omega) (by omega)) ?_
      refine lv_iadd hx hb dX1_bringMilk_46 ?_
      refine lv_istore_n (lv' := [(1, .int (x + (D.1 i))), (2, .int (nI (i))), (0, .ref (A 0))]) hx hb dX1_bringMilk_47 rfl hl (by decide) rfl (fun ls hl => ?_)
      refine lv_iinc (v := nI (i + 1)) (lv' := [(2, .int (nI (i + 1))), (1, .int (x + (D.1 i))), (0, .ref (A 0))]) hx hb dX1_bringMilk_48 hl (k := 1) rfl (nI_add _ _) (by decide) rfl (fun ls hl => ?_)
      refine lv_goto (tgt := 4) hx hb dX1_bringMilk_51 (by decide) ?_
      exact ih_4 (i + 1, x + (D.1 i), w) (by show (D.2.2.2.2.2.1 - (i + 1)) < (D.2.2.2.2.2.1 - i); omega) _ _ _ ⟨(show (i + 1) ≤ D.2.2.2.2.2.1 from by omega), (show ((x + (D.1 i)), w) = itr (i + 1) (bmStep D.1 D.2.1) (0, D.2.2.2.2.2.2.2.2.2) from by show _ = bmStep _ _ i (itr i _ _); rw [← he]; simp [bmStep, c_9, c_21]), hP, hD, hS, lv_sub hl [0, 1, 2] rfl⟩
    · refine lv_aload_n hx hb dX1_bringMilk_24 rfl (lv_at hl 2 rfl) ?_
      refine lv_dup hx hb dX1_bringMilk_25 rfl ?_
      refine va_get (v := .int (w)) (C := RX1) (T := TX1) (N := 10) hx hb hts hinX1 hown hK hP 0 rfl rfl 9 (by decide) hf45 (fun _ h9 => h9) rfl dX1_bringMilk_26 ?_
      refine lv_iconst (v := (1 : Int32)) hx hb dX1_bringMilk_29 (by decide) ?_
      refine lv_iadd hx hb dX1_bringMilk_30 ?_
      refine va_put (v := .int (w + ((1 : Int32)))) (ty := .int) (C := RX1) (T := TX1) (N := 10) hx hb hts hinX1 tyX1 tyX1_ok nmX1 hown hK hP hD hS 0 rfl rfl 9 (by decide) hf45 (fun _ h9 => h9) rfl (by first | rfl | decide +kernel) rfl rfl (Nat.le_of_ble_eq_true rfl) dX1_bringMilk_31 (fun H locs hP hD hS => ?_)
      have hP : va_P G vwCl (cat [[(A 0, .inr (1, [.ref (A 1), .ref (A 2), .ref (A 3), .ref (A 4), .ref (A 5), .int (nI (D.2.2.2.2.2.1)), .int (D.2.2.2.2.2.2.1), .int (D.2.2.2.2.2.2.2.1), .int (D.2.2.2.2.2.2.2.2.1), .int (w + ((1 : Int32)))]))], rowW cyI (A 1) (A 6) (20) (D.1), rowW cyI (A 2) (A 7) (20) (D.2.1), rowW cyI (A 3) (A 8) (6) (D.2.2.1), rowW cyI (A 4) (A 9) (20) (D.2.2.2.1), rowW cyI (A 5) (A 10) (20) (D.2.2.2.2.1)]) H := hP
      have hD : va_D A9 (cat [[(A 0, .inr (1, [.ref (A 1), .ref (A 2), .ref (A 3), .ref (A 4), .ref (A 5), .int (nI (D.2.2.2.2.2.1)), .int (D.2.2.2.2.2.2.1), .int (D.2.2.2.2.2.2.2.1), .int (D.2.2.2.2.2.2.2.2.1), .int (w + ((1 : Int32)))]))], rowW cyI (A 1) (A 6) (20) (D.1), rowW cyI (A 2) (A 7) (20) (D.2.1), rowW cyI (A 3) (A 8) (6) (D.2.2.1), rowW cyI (A 4) (A 9) (20) (D.2.2.2.1), rowW cyI (A 5) (A 10) (20) (D.2.2.2.2.1)]) := hD
      refine lv_goto (tgt := 48) hx hb dX1_bringMilk_34 (by decide) ?_
      refine lv_iinc (v := nI (i + 1)) (lv' := [(2, .int (nI (i + 1))), (1, .int (x)), (0, .ref (A 0))]) hx hb dX1_bringMilk_48 hl (k := 0) rfl (nI_add _ _) (by decide) rfl (fun ls hl => ?_)
      refine lv_goto (tgt := 4) hx hb dX1_bringMilk_51 (by decide) ?_
      exact ih_4 (i + 1, x, w + ((1 : Int32))) (by show (D.2.2.2.2.2.1 - (i + 1)) < (D.2.2.2.2.2.1 - i); omega) _ _ _ ⟨(show (i + 1) ≤ D.2.2.2.2.2.1 from by omega), (show (x, (w + ((1 : Int32)))) = itr (i + 1) (bmStep D.1 D.2.1) (0, D.2.2.2.2.2.2.2.2.2) from by show _ = bmStep _ _ i (itr i _ _); rw [← he]; simp [bmStep, c_9, c_21]), hP, hD, hS, lv_sub hl [0, 1, 2] rfl⟩

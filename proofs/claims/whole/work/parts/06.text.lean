/-! ===== DoorstepRounds$ChangeText ===== -/
abbrev TS : Type := (Nat → Int32) × Nat
def ctW (cyI : ClassId) (A : Nat → Nat) (T : TS) : va_W := (A 0, .inr (0, [.ref (A 1), .int (nI T.2)])) :: rowW cyI (A 1) (A 2) 60 T.1
def isDig (c lo hi : Int32) : Bool := !decide (c < lo) && !decide (hi < c)
def rSep (c : Int32) : Int32 := if c = 59 then 0 else -1
def rKind (c : Int32) : Int32 := if c = 43 then 1 else if c = 45 then 2 else if c = 99 then 4 else if c = 100 then 5 else if c = 104 then 5 else if c = 108 then 4 else if c = 112 then 5 else if c = 120 then 5 else -1
def rDoor (c : Int32) : Int32 := if isDig c 48 57 = true then (if c = 49 then 3 else 5) else -1
def rNext (x c : Int32) : Int32 := if x = 0 then rKind c else if x = 1 then (if isDig c 49 57 = true then 5 else -1) else if x = 2 then rDoor c else if x = 3 then (if isDig c 48 57 = true then 5 else rSep c) else if x = 4 then (if isDig c 48 53 = true then 5 else -1) else if x = 5 then rSep c else -1
def ctAt (T : TS) (k : Nat) : Int32 := if k < T.2 then T.1 k else 59
def ctScan (f : Nat → Int32) (n : Nat) : Int32 := itr n (fun j x => rNext x (f j)) 0
/-- the first place from i on, k places long, where P holds, else the place behind -/
def lsf (P : Nat → Bool) : Nat → Nat → Nat
  | i, 0 => i
  | i, k + 1 => if P i = true then i else lsf P (i + 1) k
theorem lsf_no {P : Nat → Bool} {i n : Nat} (h : i < n) (hp : ¬ P i = true) : lsf P i (n - i) = lsf P (i + 1) (n - (i + 1)) := by
  obtain ⟨k, hk⟩ : ∃ k, n - i = k + 1 := ⟨n - i - 1, by omega⟩
  rw [hk, show n - (i + 1) = k by omega]
  exact if_neg hp
theorem lsf_yes {P : Nat → Bool} {i n : Nat} (h : i < n) (hp : P i = true) : lsf P i (n - i) = i := by
  obtain ⟨k, hk⟩ : ∃ k, n - i = k + 1 := ⟨n - i - 1, by omega⟩
  rw [hk]
  exact if_pos hp
def ctErr (T : TS) : Nat := lsf (fun j => decide (ctScan T.1 (j + 1) = -1)) 0 T.2
def ctFull (T : TS) : Bool := decide (ctScan T.1 T.2 = 5) || decide (ctScan T.1 T.2 = 3)
theorem rNext_bad (c : Int32) : rNext (-1) c = -1 := by
  unfold rNext
  rw [if_neg (by decide), if_neg (by decide), if_neg (by decide), if_neg (by decide), if_neg (by decide), if_neg (by decide)]
theorem ctScan_bad {f : Nat → Int32} {i n : Nat} (h : i ≤ n) (he : ctScan f i = -1) : ctScan f n = -1 := by
  obtain ⟨k, rfl⟩ : ∃ k, n = i + k := ⟨n - i, by omega⟩
  induction k with
  | zero => exact he
  | succ k ih =>
    show rNext (ctScan f (i + k)) (f (i + k)) = -1
    rw [ih (by omega), rNext_bad]
theorem tab_out5 {x : Int32} (h0 : ¬ x = 0) (h1 : ¬ x = 1) (h2 : ¬ x = 2) (h3 : ¬ x = 3) (h4 : ¬ x = 4) (h5 : ¬ x = 5) : x.toInt < 0 ∨ 5 < x.toInt := by
  rw [← Int32.toInt_inj] at h0 h1 h2 h3 h4 h5
  have e : (0 : Int32).toInt = 0 ∧ (1 : Int32).toInt = 1 ∧ (2 : Int32).toInt = 2 ∧ (3 : Int32).toInt = 3 ∧ (4 : Int32).toInt = 4 ∧ (5 : Int32).toInt = 5 := by decide
  rw [e.1] at h0; rw [e.2.1] at h1; rw [e.2.2.1] at h2; rw [e.2.2.2.1] at h3; rw [e.2.2.2.2.1] at h4; rw [e.2.2.2.2.2] at h5
  omega
theorem lo_ne {x : Int32} {n o df : Int} {r : List (Int × Int)} (h : ¬ x = Int32.ofInt n) (hn : (Int32.ofInt n).toInt = n) : Op.lookupswitch.offset ((n, o) :: r) df x.toInt = Op.lookupswitch.offset r df x.toInt :=
  if_neg (fun e => h (Int32.toInt_inj.mp (e.symm.trans hn.symm)))
theorem i32_ne {x : Int32} {n : Int} (h : ¬ x = Int32.ofInt n) (hn : (Int32.ofInt n).toInt = n) : ¬ x.toInt = n := fun e => h (Int32.toInt_inj.mp (e.trans hn.symm))

abbrev rm_X0_isDigit : Room := { frames := 0, cells := 0, slots := 0, locals := 0 }
set_option maxHeartbeats 4000000 in
set_option maxRecDepth 100000 in
theorem c_X0_isDigit (l : Launch) (G : va_G) (cyI cyO : ClassId) (c lo hi : Int32) : CI l G (TY cyI cyO) yX0_isDigit wsX0_isDigit rm_X0_isDigit [.int (c), .int (lo), .int (hi)] [] (bI (isDig c lo hi)) [] := by
  refine wk_I (cc := cX0_isDigit) (maxL := 3) (ret := (some .boolean)) (by decide) rfl (Nat.le_of_ble_eq_true rfl) ?_
  intro p9 e9 s9 m9 b9 t9 c9 A9 ls hx hb hr hts hown hlocks hml hK hA hD hP hl hS hnm
  have hl : lv_has ls 3 [(0, .int (c)), (1, .int (lo)), (2, .int (hi))] := hl
  refine lv_iload_n hx hb dX0_isDigit_0 rfl (lv_at hl 0 rfl) ?_
  refine lv_iload_n hx hb dX0_isDigit_1 rfl (lv_at hl 1 rfl) ?_
  refine lv_icmp_lt (tgt := 14) hx hb dX0_isDigit_2 (by decide) (fun c_2 => ?_) (fun c_2 => ?_)
  · refine lv_iconst (v := (0 : Int32)) hx hb dX0_isDigit_14 (by decide) ?_
    have hP : va_P G vwCl (cat []) s9.heap := hP
    have hD : va_D A9 (cat []) := hD
    exact end_z hx hb hr hlocks hK hP hD hS (by simp [isDig, bI, c_2]) (Or.inl rfl) dX0_isDigit_15
  · refine lv_iload_n hx hb dX0_isDigit_5 rfl (lv_at hl 0 rfl) ?_
    refine lv_iload_n hx hb dX0_isDigit_6 rfl (lv_at hl 2 rfl) ?_
    refine lv_icmp_gt (tgt := 14) hx hb dX0_isDigit_7 (by decide) (fun c_7 => ?_) (fun c_7 => ?_)
    · refine lv_iconst (v := (0 : Int32)) hx hb dX0_isDigit_14 (by decide) ?_
      have hP : va_P G vwCl (cat []) s9.heap := hP
      have hD : va_D A9 (cat []) := hD
      exact end_z hx hb hr hlocks hK hP hD hS (by simp [isDig, bI, c_2, c_7]) (Or.inl rfl) dX0_isDigit_15
    · refine lv_iconst (v := (1 : Int32)) hx hb dX0_isDigit_10 (by decide) ?_
      refine lv_goto (tgt := 15) hx hb dX0_isDigit_11 (by decide) ?_
      have hP : va_P G vwCl (cat []) s9.heap := hP
      have hD : va_D A9 (cat []) := hD
      exact end_z hx hb hr hlocks hK hP hD hS (by simp [isDig, bI, c_2, c_7]) (Or.inr rfl) dX0_isDigit_15
abbrev rm_X0_readSeparator : Room := { frames := 0, cells := 0, slots := 0, locals := 0 }
set_option maxHeartbeats 4000000 in
set_option maxRecDepth 100000 in
theorem c_X0_readSeparator (l : Launch) (G : va_G) (cyI cyO : ClassId) (c : Int32) : CI l G (TY cyI cyO) yX0_readSeparator wsX0_readSeparator rm_X0_readSeparator [.int (c)] [] (rSep c) [] := by
  refine wk_I (cc := cX0_readSeparator) (maxL := 1) (ret := (some .int)) (by decide) rfl (Nat.le_of_ble_eq_true rfl) ?_
  intro p9 e9 s9 m9 b9 t9 c9 A9 ls hx hb hr hts hown hlocks hml hK hA hD hP hl hS hnm
  have hl : lv_has ls 1 [(0, .int (c))] := hl
  refine lv_iload_n hx hb dX0_readSeparator_0 rfl (lv_at hl 0 rfl) ?_
  refine lv_bipush (v := (59 : Int32)) hx hb dX0_readSeparator_1 (by decide) ?_
  refine lv_icmp_ne (tgt := 10) hx hb dX0_readSeparator_3 (by decide) (fun c_3 => ?_) (fun c_3 => ?_)
  · refine lv_iconst (v := (-1 : Int32)) hx hb dX0_readSeparator_10 (by decide) ?_
    have hP : va_P G vwCl (cat []) s9.heap := hP
    have hD : va_D A9 (cat []) := hD
    exact end_i hx hb hr hlocks hK hP hD hS (by simp [rSep, c_3]) dX0_readSeparator_11
  · refine lv_iconst (v := (0 : Int32)) hx hb dX0_readSeparator_6 (by decide) ?_
    refine lv_goto (tgt := 11) hx hb dX0_readSeparator_7 (by decide) ?_
    have hP : va_P G vwCl (cat []) s9.heap := hP
    have hD : va_D A9 (cat []) := hD
    exact end_i hx hb hr hlocks hK hP hD hS (by simp [rSep, c_3]) dX0_readSeparator_11
abbrev rm_X0_readKind : Room := { frames := 0, cells := 0, slots := 0, locals := 0 }
set_option maxHeartbeats 4000000 in
set_option maxRecDepth 100000 in
theorem c_X0_readKind (l : Launch) (G : va_G) (cyI cyO : ClassId) (c : Int32) : CI l G (TY cyI cyO) yX0_readKind wsX0_readKind rm_X0_readKind [.int (c)] [] (rKind c) [] := by
  refine wk_I (cc := cX0_readKind) (maxL := 1) (ret := (some .int)) (by decide) rfl (Nat.le_of_ble_eq_true rfl) ?_
  intro p9 e9 s9 m9 b9 t9 c9 A9 ls hx hb hr hts hown hlocks hml hK hA hD hP hl hS hnm
  have hl : lv_has ls 1 [(0, .int (c))] := hl
  refine lv_iload_n hx hb dX0_readKind_0 rfl (lv_at hl 0 rfl) ?_
  by_cases c_1_43 : c = (43 : Int32)
  · refine lv_lookup (tgt := 76) (off := 75) hx hb dX0_readKind_1 (by decide) (by rw [c_1_43]; rfl) (by decide) ?_
    refine lv_iconst (v := (1 : Int32)) hx hb dX0_readKind_76 (by decide) ?_
    have hP : va_P G vwCl (cat []) s9.heap := hP
    have hD : va_D A9 (cat []) := hD
    exact end_i hx hb hr hlocks hK hP hD hS (by simp [rKind, c_1_43]) dX0_readKind_77
  by_cases c_1_45 : c = (45 : Int32)
  · refine lv_lookup (tgt := 78) (off := 77) hx hb dX0_readKind_1 (by decide) (by rw [c_1_45]; rfl) (by decide) ?_
    refine lv_iconst (v := (2 : Int32)) hx hb dX0_readKind_78 (by decide) ?_
    have hP : va_P G vwCl (cat []) s9.heap := hP
    have hD : va_D A9 (cat []) := hD
    exact end_i hx hb hr hlocks hK hP hD hS (by simp [rKind, c_1_45]) dX0_readKind_79
  by_cases c_1_99 : c = (99 : Int32)
  · refine lv_lookup (tgt := 80) (off := 79) hx hb dX0_readKind_1 (by decide) (by rw [c_1_99]; rfl) (by decide) ?_
    refine lv_iconst (v := (4 : Int32)) hx hb dX0_readKind_80 (by decide) ?_
    have hP : va_P G vwCl (cat []) s9.heap := hP
    have hD : va_D A9 (cat []) := hD
    exact end_i hx hb hr hlocks hK hP hD hS (by simp [rKind, c_1_99]) dX0_readKind_81
  by_cases c_1_100 : c = (100 : Int32)
  · refine lv_lookup (tgt := 90) (off := 89) hx hb dX0_readKind_1 (by decide) (by rw [c_1_100]; rfl) (by decide) ?_
    refine lv_iconst (v := (5 : Int32)) hx hb dX0_readKind_90 (by decide) ?_
    have hP : va_P G vwCl (cat []) s9.heap := hP
    have hD : va_D A9 (cat []) := hD
    exact end_i hx hb hr hlocks hK hP hD hS (by simp [rKind, c_1_100]) dX0_readKind_91
  by_cases c_1_104 : c = (104 : Int32)
  · refine lv_lookup (tgt := 86) (off := 85) hx hb dX0_readKind_1 (by decide) (by rw [c_1_104]; rfl) (by decide) ?_
    refine lv_iconst (v := (5 : Int32)) hx hb dX0_readKind_86 (by decide) ?_
    have hP : va_P G vwCl (cat []) s9.heap := hP
    have hD : va_D A9 (cat []) := hD
    exact end_i hx hb hr hlocks hK hP hD hS (by simp [rKind, c_1_104]) dX0_readKind_87
  by_cases c_1_108 : c = (108 : Int32)
  · refine lv_lookup (tgt := 82) (off := 81) hx hb dX0_readKind_1 (by decide) (by rw [c_1_108]; rfl) (by decide) ?_
    refine lv_iconst (v := (4 : Int32)) hx hb dX0_readKind_82 (by decide) ?_
    have hP : va_P G vwCl (cat []) s9.heap := hP
    have hD : va_D A9 (cat []) := hD
    exact end_i hx hb hr hlocks hK hP hD hS (by simp [rKind, c_1_108]) dX0_readKind_83
  by_cases c_1_112 : c = (112 : Int32)
  · refine lv_lookup (tgt := 84) (off := 83) hx hb dX0_readKind_1 (by decide) (by rw [c_1_112]; rfl) (by decide) ?_
    refine lv_iconst (v := (5 : Int32)) hx hb dX0_readKind_84 (by decide) ?_
    have hP : va_P G vwCl (cat []) s9.heap := hP
    have hD : va_D A9 (cat []) := hD
    exact end_i hx hb hr hlocks hK hP hD hS (by simp [rKind, c_1_112]) dX0_readKind_85
  by_cases c_1_120 : c = (120 : Int32)
  · refine lv_lookup (tgt := 88) (off := 87) hx hb dX0_readKind_1 (by decide) (by rw [c_1_120]; rfl) (by decide) ?_
    refine lv_iconst (v := (5 : Int32)) hx hb dX0_readKind_88 (by decide) ?_
    have hP : va_P G vwCl (cat []) s9.heap := hP
    have hD : va_D A9 (cat []) := hD
    exact end_i hx hb hr hlocks hK hP hD hS (by simp [rKind, c_1_120]) dX0_readKind_89
  refine lv_lookup (tgt := 92) (off := 91) hx hb dX0_readKind_1 (by decide) (by show Op.lookupswitch.offset [(43, 75), (45, 77), (99, 79), (100, 89), (104, 85), (108, 81), (112, 83), (120, 87)] 91 _ = 91; rw [lo_ne (n := 43) c_1_43 (by decide), lo_ne (n := 45) c_1_45 (by decide), lo_ne (n := 99) c_1_99 (by decide), lo_ne (n := 100) c_1_100 (by decide), lo_ne (n := 104) c_1_104 (by decide), lo_ne (n := 108) c_1_108 (by decide), lo_ne (n := 112) c_1_112 (by decide), lo_ne (n := 120) c_1_120 (by decide)]; rfl) (by decide) ?_
  refine lv_iconst (v := (-1 : Int32)) hx hb dX0_readKind_92 (by decide) ?_
  have hP : va_P G vwCl (cat []) s9.heap := hP
  have hD : va_D A9 (cat []) := hD
  exact end_i hx hb hr hlocks hK hP hD hS (by simp [rKind, c_1_43, c_1_45, c_1_99, c_1_100, c_1_104, c_1_108, c_1_112, c_1_120]) dX0_readKind_93
abbrev rm_X0_readDoorstep : Room := { frames := 1, cells := 0, slots := 0, locals := 22 }
set_option maxHeartbeats 4000000 in
set_option maxRecDepth 100000 in
theorem c_X0_readDoorstep (l : Launch) (G : va_G) (cyI cyO : ClassId) (c : Int32) : CI l G (TY cyI cyO) yX0_readDoorstep wsX0_readDoorstep rm_X0_readDoorstep [.int (c)] [] (rDoor c) [] := by
  refine wk_I (cc := cX0_readDoorstep) (maxL := 1) (ret := (some .int)) (by decide) rfl (Nat.le_of_ble_eq_true rfl) ?_
  intro p9 e9 s9 m9 b9 t9 c9 A9 ls hx hb hr hts hown hlocks hml hK hA hD hP hl hS hnm
  have hl : lv_has ls 1 [(0, .int (c))] := hl
  refine lv_iload_n hx hb dX0_readDoorstep_0 rfl (lv_at hl 0 rfl) ?_
  refine lv_bipush (v := (48 : Int32)) hx hb dX0_readDoorstep_1 (by decide) ?_
  refine lv_bipush (v := (57 : Int32)) hx hb dX0_readDoorstep_3 (by decide) ?_
  refine gSi (gs := []) (As := [.int (c), .int ((48 : Int32)), .int ((57 : Int32))]) (rest := []) ⟨hx, hb, hml, hown, hts⟩ (c_X0_isDigit l G cyI cyO c ((48 : Int32)) ((57 : Int32))) (va_cwS 3 hts gX0_readDoorstep_X0_isDigit rfl rfl rfl (by decide +kernel) ⟨Nat.le_of_ble_eq_true rfl, Nat.le_of_ble_eq_true rfl⟩) hK hP hD hS hA [] rfl rfl rfl rfl hl.1 rfl (Nat.le_of_ble_eq_true rfl) dX0_readDoorstep_5 ⟨Nat.le_refl _, Nat.le_refl _⟩ (fun H locs hP hD hS => ?_)
  have hP : va_P G vwCl (cat []) H := hP
  have hD : va_D A9 (cat []) := hD
  refine lv_if_ne (tgt := 13) hx hb dX0_readDoorstep_8 (by decide) (fun c_8 => ?_) (fun c_8 => ?_)
  · have c_8 : (isDig c ((48 : Int32)) ((57 : Int32))) = true := bI_nz.mp c_8
    refine lv_iload_n hx hb dX0_readDoorstep_13 rfl (lv_at hl 0 rfl) ?_
    refine lv_bipush (v := (49 : Int32)) hx hb dX0_readDoorstep_14 (by decide) ?_
    refine lv_icmp_ne (tgt := 23) hx hb dX0_readDoorstep_16 (by decide) (fun c_16 => ?_) (fun c_16 => ?_)
    · refine lv_iconst (v := (5 : Int32)) hx hb dX0_readDoorstep_23 (by decide) ?_
      have hP : va_P G vwCl (cat []) H := hP
      have hD : va_D A9 (cat []) := hD
      exact end_i hx hb hr hlocks hK hP hD hS (by first | (rw [rDoor, if_pos c_8, if_pos c_16]; done) | (rw [rDoor, if_pos c_8, if_neg c_16]; done) | simp [rDoor, c_8, c_16]) dX0_readDoorstep_24
    · refine lv_iconst (v := (3 : Int32)) hx hb dX0_readDoorstep_19 (by decide) ?_
      refine lv_goto (tgt := 24) hx hb dX0_readDoorstep_20 (by decide) ?_
      have hP : va_P G vwCl (cat []) H := hP
      have hD : va_D A9 (cat []) := hD
      exact end_i hx hb hr hlocks hK hP hD hS (by first | (rw [rDoor, if_pos c_8, if_pos c_16]; done) | (rw [rDoor, if_pos c_8, if_neg c_16]; done) | simp [rDoor, c_8, c_16]) dX0_readDoorstep_24
  · have c_8 : (isDig c ((48 : Int32)) ((57 : Int32))) = false := bI_z.mp c_8
    refine lv_iconst (v := (-1 : Int32)) hx hb dX0_readDoorstep_11 (by decide) ?_
    have hP : va_P G vwCl (cat []) H := hP
    have hD : va_D A9 (cat []) := hD
    exact end_i hx hb hr hlocks hK hP hD hS (by first | (rw [rDoor, if_pos c_8, if_pos c_16]; done) | (rw [rDoor, if_pos c_8, if_neg c_16]; done) | simp [rDoor, c_8]) dX0_readDoorstep_12
abbrev rm_X0_readNext : Room := { frames := 2, cells := 0, slots := 0, locals := 42 }
set_option maxHeartbeats 4000000 in
set_option maxRecDepth 100000 in
theorem c_X0_readNext (l : Launch) (G : va_G) (cyI cyO : ClassId) (x c : Int32) : CI l G (TY cyI cyO) yX0_readNext wsX0_readNext rm_X0_readNext [.int (x), .int (c)] [] (rNext x c) [] := by
  refine wk_I (cc := cX0_readNext) (maxL := 2) (ret := (some .int)) (by decide) rfl (Nat.le_of_ble_eq_true rfl) ?_
  intro p9 e9 s9 m9 b9 t9 c9 A9 ls hx hb hr hts hown hlocks hml hK hA hD hP hl hS hnm
  have hl : lv_has ls 2 [(0, .int (x)), (1, .int (c))] := hl
  refine lv_iload_n hx hb dX0_readNext_0 rfl (lv_at hl 0 rfl) ?_
  by_cases c_1_0 : x = (0 : Int32)
  · refine lv_tableIn (tgt := 40) (off := 39) hx hb dX0_readNext_1 (by rw [c_1_0]; decide) (by rw [c_1_0]; decide) (by rw [c_1_0]; rfl) (by decide) ?_
    refine lv_iload_n hx hb dX0_readNext_40 rfl (lv_at hl 1 rfl) ?_
    refine gSi (gs := []) (As := [.int (c)]) (rest := []) ⟨hx, hb, hml, hown, hts⟩ (c_X0_readKind l G cyI cyO c) (va_cwS 1 hts gX0_readNext_X0_readKind rfl rfl rfl (by decide +kernel) ⟨Nat.le_of_ble_eq_true rfl, Nat.le_of_ble_eq_true rfl⟩) hK hP hD hS hA [] rfl rfl rfl rfl hl.1 rfl (Nat.le_of_ble_eq_true rfl) dX0_readNext_41 ⟨Nat.le_refl _, Nat.le_refl _⟩ (fun H locs hP hD hS => ?_)
    have hP : va_P G vwCl (cat []) H := hP
    have hD : va_D A9 (cat []) := hD
    have hP : va_P G vwCl (cat []) H := hP
    have hD : va_D A9 (cat []) := hD
    exact end_i hx hb hr hlocks hK hP hD hS (by simp [rNext, c_1_0]) dX0_readNext_44
  by_cases c_1_1 : x = (1 : Int32)
  · refine lv_tableIn (tgt := 45) (off := 44) hx hb dX0_readNext_1 (by rw [c_1_1]; decide) (by rw [c_1_1]; decide) (by rw [c_1_1]; rfl) (by decide) ?_
    refine lv_iload_n hx hb dX0_readNext_45 rfl (lv_at hl 1 rfl) ?_
    refine lv_bipush (v := (49 : Int32)) hx hb dX0_readNext_46 (by decide) ?_
    refine lv_bipush (v := (57 : Int32)) hx hb dX0_readNext_48 (by decide) ?_
    refine gSi (gs := []) (As := [.int (c), .int ((49 : Int32)), .int ((57 : Int32))]) (rest := []) ⟨hx, hb, hml, hown, hts⟩ (c_X0_isDigit l G cyI cyO c ((49 : Int32)) ((57 : Int32))) (va_cwS 3 hts gX0_readNext_X0_isDigit rfl rfl rfl (by decide +kernel) ⟨Nat.le_of_ble_eq_true rfl, Nat.le_of_ble_eq_true rfl⟩) hK hP hD hS hA [] rfl rfl rfl rfl hl.1 rfl (Nat.le_of_ble_eq_true rfl) dX0_readNext_50 ⟨Nat.le_refl _, Nat.le_refl _⟩ (fun H locs hP hD hS => ?_)
    have hP : va_P G vwCl (cat []) H := hP
    have hD : va_D A9 (cat []) := hD
    refine lv_if_eq (tgt := 60) hx hb dX0_readNext_53 (by decide) (fun c_53 => ?_) (fun c_53 => ?_)
    · have c_53 : (isDig c ((49 : Int32)) ((57 : Int32))) = false := bI_z.mp c_53
      refine lv_iconst (v := (-1 : Int32)) hx hb dX0_readNext_60 (by decide) ?_
      have hP : va_P G vwCl (cat []) H := hP
      have hD : va_D A9 (cat []) := hD
      exact end_i hx hb hr hlocks hK hP hD hS (by simp [rNext, c_1_1, c_53]) dX0_readNext_61
    · have c_53 : (isDig c ((49 : Int32)) ((57 : Int32))) = true := bI_nz.mp c_53
      refine lv_iconst (v := (5 : Int32)) hx hb dX0_readNext_56 (by decide) ?_
      refine lv_goto (tgt := 61) hx hb dX0_readNext_57 (by decide) ?_
      have hP : va_P G vwCl (cat []) H := hP
      have hD : va_D A9 (cat []) := hD
      exact end_i hx hb hr hlocks hK hP hD hS (by simp [rNext, c_1_1, c_53]) dX0_readNext_61
  by_cases c_1_2 : x = (2 : Int32)
  · refine lv_tableIn (tgt := 62) (off := 61) hx hb dX0_readNext_1 (by rw [c_1_2]; decide) (by rw [c_1_2]; decide) (by rw [c_1_2]; rfl) (by decide) ?_
    refine lv_iload_n hx hb dX0_readNext_62 rfl (lv_at hl 1 rfl) ?_
    refine gSi (gs := []) (As := [.int (c)]) (rest := []) ⟨hx, hb, hml, hown, hts⟩ (c_X0_readDoorstep l G cyI cyO c) (va_cwS 1 hts gX0_readNext_X0_readDoorstep rfl rfl rfl (by decide +kernel) ⟨Nat.le_of_ble_eq_true rfl, Nat.le_of_ble_eq_true rfl⟩) hK hP hD hS hA [] rfl rfl rfl rfl hl.1 rfl (Nat.le_of_ble_eq_true rfl) dX0_readNext_63 ⟨Nat.le_refl _, Nat.le_refl _⟩ (fun H locs hP hD hS => ?_)
    have hP : va_P G vwCl (cat []) H := hP
    have hD : va_D A9 (cat []) := hD
    have hP : va_P G vwCl (cat []) H := hP
    have hD : va_D A9 (cat []) := hD
    exact end_i hx hb hr hlocks hK hP hD hS (by simp [rNext, c_1_2]) dX0_readNext_66
  by_cases c_1_3 : x = (3 : Int32)
  · refine lv_tableIn (tgt := 67) (off := 66) hx hb dX0_readNext_1 (by rw [c_1_3]; decide) (by rw [c_1_3]; decide) (by rw [c_1_3]; rfl) (by decide) ?_
    refine lv_iload_n hx hb dX0_readNext_67 rfl (lv_at hl 1 rfl) ?_
    refine lv_bipush (v := (48 : Int32)) hx hb dX0_readNext_68 (by decide) ?_
    refine lv_bipush (v := (57 : Int32)) hx hb dX0_readNext_70 (by decide) ?_
    refine gSi (gs := []) (As := [.int (c), .int ((48 : Int32)), .int ((57 : Int32))]) (rest := []) ⟨hx, hb, hml, hown, hts⟩ (c_X0_isDigit l G cyI cyO c ((48 : Int32)) ((57 : Int32))) (va_cwS 3 hts gX0_readNext_X0_isDigit rfl rfl rfl (by decide +kernel) ⟨Nat.le_of_ble_eq_true rfl, Nat.le_of_ble_eq_true rfl⟩) hK hP hD hS hA [] rfl rfl rfl rfl hl.1 rfl (Nat.le_of_ble_eq_true rfl) dX0_readNext_72 ⟨Nat.le_refl _, Nat.le_refl _⟩ (fun H locs hP hD hS => ?_)
    have hP : va_P G vwCl (cat []) H := hP
    have hD : va_D A9 (cat []) := hD
    refine lv_if_eq (tgt := 82) hx hb dX0_readNext_75 (by decide) (fun c_75 => ?_) (fun c_75 => ?_)
    · have c_75 : (isDig c ((48 : Int32)) ((57 : Int32))) = false := bI_z.mp c_75
      refine lv_iload_n hx hb dX0_readNext_82 rfl (lv_at hl 1 rfl) ?_
      refine gSi (gs := []) (As := [.int (c)]) (rest := []) ⟨hx, hb, hml, hown, hts⟩ (c_X0_readSeparator l G cyI cyO c) (va_cwS 1 hts gX0_readNext_X0_readSeparator rfl rfl rfl (by decide +kernel) ⟨Nat.le_of_ble_eq_true rfl, Nat.le_of_ble_eq_true rfl⟩) hK hP hD hS hA [] rfl rfl rfl rfl hl.1 rfl (Nat.le_of_ble_eq_true rfl) dX0_readNext_83 ⟨Nat.le_refl _, Nat.le_refl _⟩ (fun H locs hP hD hS => ?_)
      have hP : va_P G vwCl (cat []) H := hP
      have hD : va_D A9 (cat []) := hD
      have hP : va_P G vwCl (cat []) H := hP
      have hD : va_D A9 (cat []) := hD
      exact end_i hx hb hr hlocks hK hP hD hS (by simp [rNext, c_1_3, c_75]) dX0_readNext_86
    · have c_75 : (isDig c ((48 : Int32)) ((57 : Int32))) = true := bI_nz.mp c_75
      refine lv_iconst (v := (5 : Int32)) hx hb dX0_readNext_78 (by decide) ?_
      refine lv_goto (tgt := 86) hx hb dX0_readNext_79 (by decide) ?_
      have hP : va_P G vwCl (cat []) H := hP
      have hD : va_D A9 (cat []) := hD
      exact end_i hx hb hr hlocks hK hP hD hS (by simp [rNext, c_1_3, c_75]) dX0_readNext_86
  by_cases c_1_4 : x = (4 : Int32)
  · refine lv_tableIn (tgt := 87) (off := 86) hx hb dX0_readNext_1 (by rw [c_1_4]; decide) (by rw [c_1_4]; decide) (by rw [c_1_4]; rfl) (by decide) ?_
    refine lv_iload_n hx hb dX0_readNext_87 rfl (lv_at hl 1 rfl) ?_
    refine lv_bipush (v := (48 : Int32)) hx hb dX0_readNext_88 (by decide) ?_
    refine lv_bipush (v := (53 : Int32)) hx hb dX0_readNext_90 (by decide) ?_
    refine gSi (gs := []) (As := [.int (c), .int ((48 : Int32)), .int ((53 : Int32))]) (rest := []) ⟨hx, hb, hml, hown, hts⟩ (c_X0_isDigit l G cyI cyO c ((48 : Int32)) ((53 : Int32))) (va_cwS 3 hts gX0_readNext_X0_isDigit rfl rfl rfl (by decide +kernel) ⟨Nat.le_of_ble_eq_true rfl, Nat.le_of_ble_eq_true rfl⟩) hK hP hD hS hA [] rfl rfl rfl rfl hl.1 rfl (Nat.le_of_ble_eq_true rfl) dX0_readNext_92 ⟨Nat.le_refl _, Nat.le_refl _⟩ (fun H locs hP hD hS => ?_)
    have hP : va_P G vwCl (cat []) H := hP
    have hD : va_D A9 (cat []) := hD
    refine lv_if_eq (tgt := 102) hx hb dX0_readNext_95 (by decide) (fun c_95 => ?_) (fun c_95 => ?_)
    · have c_95 : (isDig c ((48 : Int32)) ((53 : Int32))) = false := bI_z.mp c_95
      refine lv_iconst (v := (-1 : Int32)) hx hb dX0_readNext_102 (by decide) ?_
      have hP : va_P G vwCl (cat []) H := hP
      have hD : va_D A9 (cat []) := hD
      exact end_i hx hb hr hlocks hK hP hD hS (by simp [rNext, c_1_4, c_95]) dX0_readNext_103
    · have c_95 : (isDig c ((48 : Int32)) ((53 : Int32))) = true := bI_nz.mp c_95
      refine lv_iconst (v := (5 : Int32)) hx hb dX0_readNext_98 (by decide) ?_
      refine lv_goto (tgt := 103) hx hb dX0_readNext_99 (by decide) ?_
      have hP : va_P G vwCl (cat []) H := hP
      have hD : va_D A9 (cat []) := hD
      exact end_i hx hb hr hlocks hK hP hD hS (by simp [rNext, c_1_4, c_95]) dX0_readNext_103
  by_cases c_1_5 : x = (5 : Int32)
  · refine lv_tableIn (tgt := 104) (off := 103) hx hb dX0_readNext_1 (by rw [c_1_5]; decide) (by rw [c_1_5]; decide) (by rw [c_1_5]; rfl) (by decide) ?_
    refine lv_iload_n hx hb dX0_readNext_104 rfl (lv_at hl 1 rfl) ?_
    refine gSi (gs := []) (As := [.int (c)]) (rest := []) ⟨hx, hb, hml, hown, hts⟩ (c_X0_readSeparator l G cyI cyO c) (va_cwS 1 hts gX0_readNext_X0_readSeparator rfl rfl rfl (by decide +kernel) ⟨Nat.le_of_ble_eq_true rfl, Nat.le_of_ble_eq_true rfl⟩) hK hP hD hS hA [] rfl rfl rfl rfl hl.1 rfl (Nat.le_of_ble_eq_true rfl) dX0_readNext_105 ⟨Nat.le_refl _, Nat.le_refl _⟩ (fun H locs hP hD hS => ?_)
    have hP : va_P G vwCl (cat []) H := hP
    have hD : va_D A9 (cat []) := hD
    have hP : va_P G vwCl (cat []) H := hP
    have hD : va_D A9 (cat []) := hD
    exact end_i hx hb hr hlocks hK hP hD hS (by simp [rNext, c_1_5]) dX0_readNext_108
  refine lv_tableOut (tgt := 109) hx hb dX0_readNext_1 (tab_out5 c_1_0 c_1_1 c_1_2 c_1_3 c_1_4 c_1_5) (by decide) ?_
  refine lv_iconst (v := (-1 : Int32)) hx hb dX0_readNext_109 (by decide) ?_
  have hP : va_P G vwCl (cat []) s9.heap := hP
  have hD : va_D A9 (cat []) := hD
  exact end_i hx hb hr hlocks hK hP hD hS (by simp [rNext, c_1_0, c_1_1, c_1_2, c_1_3, c_1_4, c_1_5]) dX0_readNext_110
abbrev rm_X0_isFull : Room := { frames := 0, cells := 0, slots := 0, locals := 0 }
set_option maxHeartbeats 4000000 in
set_option maxRecDepth 100000 in
theorem c_X0_isFull (l : Launch) (G : va_G) (cyI cyO : ClassId) (A : Nat → Nat) (T : TS) (hT : T.2 ≤ 60) : CI l G (TY cyI cyO) yX0_isFull wsX0_isFull rm_X0_isFull [.ref (A 0)] [ctW cyI A T] (bI (decide (60 ≤ T.2))) [ctW cyI A T] := by
  refine wk_I (cc := cX0_isFull) (maxL := 1) (ret := (some .boolean)) (by decide) rfl (Nat.le_of_ble_eq_true rfl) ?_
  intro p9 e9 s9 m9 b9 t9 c9 A9 ls hx hb hr hts hown hlocks hml hK hA hD hP hl hS hnm
  have hl : lv_has ls 1 [(0, .ref (A 0))] := hl
  have hinX0 : ∀ w ∈ wsX00, w ∈ wsX0_isFull := by decide +kernel
  have hf20 := hts (.fieldLink RX0 20 "DoorstepRounds$ChangeText" "length" "I") (by decide +kernel)
  refine lv_aload_n hx hb dX0_isFull_0 rfl (lv_at hl 0 rfl) ?_
  refine va_get (v := .int (nI (T.2))) (C := RX0) (T := TX0) (N := 2) hx hb hts hinX0 hown hK hP 0 rfl rfl 1 (by decide) hf20 (fun _ h9 => h9) rfl dX0_isFull_1 ?_
  refine lv_bipush (v := (60 : Int32)) hx hb dX0_isFull_4 (by decide) ?_
  refine lv_icmp_lt (tgt := 13) hx hb dX0_isFull_6 (by decide) (fun c_6 => ?_) (fun c_6 => ?_)
  · have c_6 : (T.2) < (60) := (nI_ltI (a := T.2) (b := 60) (by omega) (by omega)).mp c_6
    refine lv_iconst (v := (0 : Int32)) hx hb dX0_isFull_13 (by decide) ?_
    have hP : va_P G vwCl (cat [ctW cyI A T]) s9.heap := hP
    have hD : va_D A9 (cat [ctW cyI A T]) := hD
    exact end_z hx hb hr hlocks hK hP hD hS (by simp [bI]; omega) (Or.inl rfl) dX0_isFull_14
  · have c_6 : ¬ (T.2) < (60) := fun h9 => c_6 ((nI_ltI (a := T.2) (b := 60) (by omega) (by omega)).mpr h9)
    refine lv_iconst (v := (1 : Int32)) hx hb dX0_isFull_9 (by decide) ?_
    refine lv_goto (tgt := 14) hx hb dX0_isFull_10 (by decide) ?_
    have hP : va_P G vwCl (cat [ctW cyI A T]) s9.heap := hP
    have hD : va_D A9 (cat [ctW cyI A T]) := hD
    exact end_z hx hb hr hlocks hK hP hD hS (by simp [bI]; omega) (Or.inr rfl) dX0_isFull_14
abbrev rm_X0_countCodes : Room := { frames := 0, cells := 0, slots := 0, locals := 0 }
set_option maxHeartbeats 4000000 in
set_option maxRecDepth 100000 in
theorem c_X0_countCodes (l : Launch) (G : va_G) (cyI cyO : ClassId) (A : Nat → Nat) (T : TS) : CI l G (TY cyI cyO) yX0_countCodes wsX0_countCodes rm_X0_countCodes [.ref (A 0)] [ctW cyI A T] (nI (T.2)) [ctW cyI A T] := by
  refine wk_I (cc := cX0_countCodes) (maxL := 1) (ret := (some .int)) (by decide) rfl (Nat.le_of_ble_eq_true rfl) ?_
  intro p9 e9 s9 m9 b9 t9 c9 A9 ls hx hb hr hts hown hlocks hml hK hA hD hP hl hS hnm
  have hl : lv_has ls 1 [(0, .ref (A 0))] := hl
  have hinX0 : ∀ w ∈ wsX00, w ∈ wsX0_countCodes := by decide +kernel
  have hf20 := hts (.fieldLink RX0 20 "DoorstepRounds$ChangeText" "length" "I") (by decide +kernel)
  refine lv_aload_n hx hb dX0_countCodes_0 rfl (lv_at hl 0 rfl) ?_
  refine va_get (v := .int (nI (T.2))) (C := RX0) (T := TX0) (N := 2) hx hb hts hinX0 hown hK hP 0 rfl rfl 1 (by decide) hf20 (fun _ h9 => h9) rfl dX0_countCodes_1 ?_
  have hP : va_P G vwCl (cat [ctW cyI A T]) s9.heap := hP
  have hD : va_D A9 (cat [ctW cyI A T]) := hD
  exact end_i hx hb hr hlocks hK hP hD hS (rfl) dX0_countCodes_4
abbrev rm_X0_empty : Room := { frames := 0, cells := 0, slots := 0, locals := 0 }
set_option maxHeartbeats 4000000 in
set_option maxRecDepth 100000 in
theorem c_X0_empty (l : Launch) (G : va_G) (cyI cyO : ClassId) (A : Nat → Nat) (T : TS) : CI l G (TY cyI cyO) yX0_empty wsX0_empty rm_X0_empty [.ref (A 0)] [ctW cyI A T] (nI (T.2)) [ctW cyI A ((T.1, 0))] := by
  refine wk_I (cc := cX0_empty) (maxL := 2) (ret := (some .int)) (by decide) rfl (Nat.le_of_ble_eq_true rfl) ?_
  intro p9 e9 s9 m9 b9 t9 c9 A9 ls hx hb hr hts hown hlocks hml hK hA hD hP hl hS hnm
  have hl : lv_has ls 2 [(0, .ref (A 0))] := hl
  have hinX0 : ∀ w ∈ wsX00, w ∈ wsX0_empty := by decide +kernel
  have hf20 := hts (.fieldLink RX0 20 "DoorstepRounds$ChangeText" "length" "I") (by decide +kernel)
  refine lv_aload_n hx hb dX0_empty_0 rfl (lv_at hl 0 rfl) ?_
  refine va_get (v := .int (nI (T.2))) (C := RX0) (T := TX0) (N := 2) hx hb hts hinX0 hown hK hP 0 rfl rfl 1 (by decide) hf20 (fun _ h9 => h9) rfl dX0_empty_1 ?_
  refine lv_istore_n (lv' := [(1, .int (nI (T.2))), (0, .ref (A 0))]) hx hb dX0_empty_4 rfl hl (by decide) rfl (fun ls hl => ?_)
  refine lv_aload_n hx hb dX0_empty_5 rfl (lv_at hl 1 rfl) ?_
  refine lv_iconst (v := (0 : Int32)) hx hb dX0_empty_6 (by decide) ?_
  have hP : va_P G vwCl (cat [[(A 0, .inr (0, [.ref (A 1), .int (nI (T.2))]))], rowW cyI (A 1) (A 2) (60) (T.1)]) s9.heap := hP
  have hD : va_D A9 (cat [[(A 0, .inr (0, [.ref (A 1), .int (nI (T.2))]))], rowW cyI (A 1) (A 2) (60) (T.1)]) := hD
  refine va_put (v := .int ((0 : Int32))) (ty := .int) (C := RX0) (T := TX0) (N := 2) hx hb hts hinX0 tyX0 tyX0_ok nmX0 hown hK hP hD hS 0 rfl rfl 1 (by decide) hf20 (fun _ h9 => h9) rfl (by first | rfl | decide +kernel) rfl rfl (Nat.le_of_ble_eq_true rfl) dX0_empty_7 (fun H locs hP hD hS => ?_)
  have hP : va_P G vwCl (cat [[(A 0, .inr (0, [.ref (A 1), .int ((0 : Int32))]))], rowW cyI (A 1) (A 2) (60) (T.1)]) H := hP
  have hD : va_D A9 (cat [[(A 0, .inr (0, [.ref (A 1), .int ((0 : Int32))]))], rowW cyI (A 1) (A 2) (60) (T.1)]) := hD
  refine lv_iload_n hx hb dX0_empty_10 rfl (lv_at hl 0 rfl) ?_
  have hP : va_P G vwCl (cat [ctW cyI A ((T.1, 0))]) H := hP
  have hD : va_D A9 (cat [ctW cyI A ((T.1, 0))]) := hD
  exact end_i hx hb hr hlocks hK hP hD hS (rfl) dX0_empty_11
abbrev rm_X0_addCode : Room := { frames := 1, cells := 0, slots := 0, locals := 22 }
set_option maxHeartbeats 4000000 in
set_option maxRecDepth 100000 in
theorem c_X0_addCode (l : Launch) (G : va_G) (cyI cyO : ClassId) (A : Nat → Nat) (T : TS) (c : Int32) (hT : T.2 < 60) : CI l G (TY cyI cyO) yX0_addCode wsX0_addCode rm_X0_addCode [.ref (A 0), .int (c)] [ctW cyI A T] (nI (T.2 + 1)) [ctW cyI A ((upd T.1 T.2 c, T.2 + 1))] := by
  refine wk_I (cc := cX0_addCode) (maxL := 2) (ret := (some .int)) (by decide) rfl (Nat.le_of_ble_eq_true rfl) ?_
  intro p9 e9 s9 m9 b9 t9 c9 A9 ls hx hb hr hts hown hlocks hml hK hA hD hP hl hS hnm
  have hl : lv_has ls 2 [(0, .ref (A 0)), (1, .int (c))] := hl
  have hinX0 : ∀ w ∈ wsX00, w ∈ wsX0_addCode := by decide +kernel
  have hf14 := hts (.fieldLink RX0 14 "DoorstepRounds$ChangeText" "codes" "LDoorstepRounds$Row;") (by decide +kernel)
  have hf20 := hts (.fieldLink RX0 20 "DoorstepRounds$ChangeText" "length" "I") (by decide +kernel)
  refine lv_aload_n hx hb dX0_addCode_0 rfl (lv_at hl 0 rfl) ?_
  refine va_get (v := .ref (A 1)) (C := RX0) (T := TX0) (N := 2) hx hb hts hinX0 hown hK hP 0 rfl rfl 0 (by decide) hf14 (fun _ h9 => h9) rfl dX0_addCode_1 ?_
  refine lv_aload_n hx hb dX0_addCode_4 rfl (lv_at hl 0 rfl) ?_
  refine va_get (v := .int (nI (T.2))) (C := RX0) (T := TX0) (N := 2) hx hb hts hinX0 hown hK hP 0 rfl rfl 1 (by decide) hf20 (fun _ h9 => h9) rfl dX0_addCode_5 ?_
  refine lv_iload_n hx hb dX0_addCode_8 rfl (lv_at hl 1 rfl) ?_
  have hP : va_P G vwCl (cat [[(A 0, .inr (0, [.ref (A 1), .int (nI (T.2))]))], rowW cyI (A 1) (A 2) (60) (T.1)]) s9.heap := hP
  have hD : va_D A9 (cat [[(A 0, .inr (0, [.ref (A 1), .int (nI (T.2))]))], rowW cyI (A 1) (A 2) (60) (T.1)]) := hD
  refine gVv (gs := [[(A 0, .inr (0, [.ref (A 1), .int (nI (T.2))]))], rowW cyI (A 1) (A 2) (60) (T.1)]) (As := [.int (nI (T.2)), .int (c)]) (rest := []) ⟨hx, hb, hml, hown, hts⟩ (c_X3_put l G cyI cyO (A 1) (A 2) 60 T.1 (nI (T.2)) c (by omega)) (cwV 2 hts gX0_addCode_X3_put rfl rfl rfl (by decide +kernel) ⟨Nat.le_of_ble_eq_true rfl, Nat.le_of_ble_eq_true rfl⟩) hK hP hD hS hA [1] rfl rfl rfl 0 3 rfl rfl rfl hl.1 rfl (Nat.le_of_ble_eq_true rfl) dX0_addCode_9 ⟨Nat.le_refl _, Nat.le_refl _⟩ (fun H locs hP hD hS => ?_)
  have hP : va_P G vwCl (cat [[(A 0, .inr (0, [.ref (A 1), .int (nI (T.2))]))], rowW cyI (A 1) (A 2) (60) (rowPut T.1 60 (nI (T.2)) c)]) H := hP
  have hD : va_D A9 (cat [[(A 0, .inr (0, [.ref (A 1), .int (nI (T.2))]))], rowW cyI (A 1) (A 2) (60) (rowPut T.1 60 (nI (T.2)) c)]) := hD
  rw [rowPut_in (by omega) (by omega)] at hP hD
  have hP : va_P G vwCl (cat [[(A 0, .inr (0, [.ref (A 1), .int (nI (T.2))]))], rowW cyI (A 1) (A 2) (60) (upd T.1 T.2 c)]) H := hP
  have hD : va_D A9 (cat [[(A 0, .inr (0, [.ref (A 1), .int (nI (T.2))]))], rowW cyI (A 1) (A 2) (60) (upd T.1 T.2 c)]) := hD
  refine lv_aload_n hx hb dX0_addCode_12 rfl (lv_at hl 0 rfl) ?_
  refine lv_dup hx hb dX0_addCode_13 rfl ?_
  refine va_get (v := .int (nI (T.2))) (C := RX0) (T := TX0) (N := 2) hx hb hts hinX0 hown hK hP 0 rfl rfl 1 (by decide) hf20 (fun _ h9 => h9) rfl dX0_addCode_14 ?_
  refine lv_iconst (v := (1 : Int32)) hx hb dX0_addCode_17 (by decide) ?_
  refine lv_iadd hx hb dX0_addCode_18 ?_
  refine top_i (x' := nI (T.2 + 1)) (nI_add (T.2) (1)) ?_
  refine va_put (v := .int (nI (T.2 + 1))) (ty := .int) (C := RX0) (T := TX0) (N := 2) hx hb hts hinX0 tyX0 tyX0_ok nmX0 hown hK hP hD hS 0 rfl rfl 1 (by decide) hf20 (fun _ h9 => h9) rfl (by first | rfl | decide +kernel) rfl rfl (Nat.le_of_ble_eq_true rfl) dX0_addCode_19 (fun H locs hP hD hS => ?_)
  have hP : va_P G vwCl (cat [[(A 0, .inr (0, [.ref (A 1), .int (nI (T.2 + 1))]))], rowW cyI (A 1) (A 2) (60) (upd T.1 T.2 c)]) H := hP
  have hD : va_D A9 (cat [[(A 0, .inr (0, [.ref (A 1), .int (nI (T.2 + 1))]))], rowW cyI (A 1) (A 2) (60) (upd T.1 T.2 c)]) := hD
  refine lv_aload_n hx hb dX0_addCode_22 rfl (lv_at hl 0 rfl) ?_
  refine va_get (v := .int (nI (T.2 + 1))) (C := RX0) (T := TX0) (N := 2) hx hb hts hinX0 hown hK hP 0 rfl rfl 1 (by decide) hf20 (fun _ h9 => h9) rfl dX0_addCode_23 ?_
  have hP : va_P G vwCl (cat [ctW cyI A ((upd T.1 T.2 c, T.2 + 1))]) H := hP
  have hD : va_D A9 (cat [ctW cyI A ((upd T.1 T.2 c, T.2 + 1))]) := hD
  exact end_i hx hb hr hlocks hK hP hD hS (rfl) dX0_addCode_26
abbrev rm_X0_codeOrSeparator : Room := { frames := 1, cells := 0, slots := 0, locals := 21 }
set_option maxHeartbeats 4000000 in
set_option maxRecDepth 100000 in
theorem c_X0_codeOrSeparator (l : Launch) (G : va_G) (cyI cyO : ClassId) (A : Nat → Nat) (T : TS) (k : Nat) (hT : T.2 ≤ 60) (hk : k ≤ 60) : CI l G (TY cyI cyO) yX0_codeOrSeparator wsX0_codeOrSeparator rm_X0_codeOrSeparator [.ref (A 0), .int (nI (k))] [ctW cyI A T] (ctAt T k) [ctW cyI A T] := by
  refine wk_I (cc := cX0_codeOrSeparator) (maxL := 2) (ret := (some .int)) (by decide) rfl (Nat.le_of_ble_eq_true rfl) ?_
  intro p9 e9 s9 m9 b9 t9 c9 A9 ls hx hb hr hts hown hlocks hml hK hA hD hP hl hS hnm
  have hl : lv_has ls 2 [(0, .ref (A 0)), (1, .int (nI (k)))] := hl
  have hinX0 : ∀ w ∈ wsX00, w ∈ wsX0_codeOrSeparator := by decide +kernel
  have hf14 := hts (.fieldLink RX0 14 "DoorstepRounds$ChangeText" "codes" "LDoorstepRounds$Row;") (by decide +kernel)
  have hf20 := hts (.fieldLink RX0 20 "DoorstepRounds$ChangeText" "length" "I") (by decide +kernel)
  refine lv_iload_n hx hb dX0_codeOrSeparator_0 rfl (lv_at hl 1 rfl) ?_
  refine lv_aload_n hx hb dX0_codeOrSeparator_1 rfl (lv_at hl 0 rfl) ?_
  refine va_get (v := .int (nI (T.2))) (C := RX0) (T := TX0) (N := 2) hx hb hts hinX0 hown hK hP 0 rfl rfl 1 (by decide) hf20 (fun _ h9 => h9) rfl dX0_codeOrSeparator_2 ?_
  refine lv_icmp_ge (tgt := 19) hx hb dX0_codeOrSeparator_5 (by decide) (fun c_5 => ?_) (fun c_5 => ?_)
  · have c_5 : (T.2) ≤ (k) := (nI_leI (a := T.2) (b := k) (by omega) (by omega)).mp c_5
    refine lv_bipush (v := (59 : Int32)) hx hb dX0_codeOrSeparator_19 (by decide) ?_
    have hP : va_P G vwCl (cat [ctW cyI A T]) s9.heap := hP
    have hD : va_D A9 (cat [ctW cyI A T]) := hD
    exact end_i hx hb hr hlocks hK hP hD hS (by first | (rw [ctAt, if_neg (by omega)]; done) | (rw [ctAt, if_pos (by omega)]; done)) dX0_codeOrSeparator_21
  · have c_5 : ¬ (T.2) ≤ (k) := fun h9 => c_5 ((nI_leI (a := T.2) (b := k) (by omega) (by omega)).mpr h9)
    refine lv_aload_n hx hb dX0_codeOrSeparator_8 rfl (lv_at hl 0 rfl) ?_
    refine va_get (v := .ref (A 1)) (C := RX0) (T := TX0) (N := 2) hx hb hts hinX0 hown hK hP 0 rfl rfl 0 (by decide) hf14 (fun _ h9 => h9) rfl dX0_codeOrSeparator_9 ?_
    refine lv_iload_n hx hb dX0_codeOrSeparator_12 rfl (lv_at hl 1 rfl) ?_
    have hP : va_P G vwCl (cat [[(A 0, .inr (0, [.ref (A 1), .int (nI (T.2))]))], rowW cyI (A 1) (A 2) (60) (T.1)]) s9.heap := hP
    have hD : va_D A9 (cat [[(A 0, .inr (0, [.ref (A 1), .int (nI (T.2))]))], rowW cyI (A 1) (A 2) (60) (T.1)]) := hD
    refine gVi (gs := [[(A 0, .inr (0, [.ref (A 1), .int (nI (T.2))]))], rowW cyI (A 1) (A 2) (60) (T.1)]) (As := [.int (nI (k))]) (rest := []) ⟨hx, hb, hml, hown, hts⟩ (c_X3_at l G cyI cyO (A 1) (A 2) 60 T.1 (nI (k)) (by omega)) (cwV 1 hts gX0_codeOrSeparator_X3_at rfl rfl rfl (by decide +kernel) ⟨Nat.le_of_ble_eq_true rfl, Nat.le_of_ble_eq_true rfl⟩) hK hP hD hS hA [1] rfl rfl rfl 0 3 rfl rfl rfl hl.1 rfl (Nat.le_of_ble_eq_true rfl) dX0_codeOrSeparator_13 ⟨Nat.le_refl _, Nat.le_refl _⟩ (fun H locs hP hD hS => ?_)
    have hP : va_P G vwCl (cat [[(A 0, .inr (0, [.ref (A 1), .int (nI (T.2))]))], rowW cyI (A 1) (A 2) (60) (T.1)]) H := hP
    have hD : va_D A9 (cat [[(A 0, .inr (0, [.ref (A 1), .int (nI (T.2))]))], rowW cyI (A 1) (A 2) (60) (T.1)]) := hD
    refine top_i (x' := T.1 k) (rowAt_in (by omega) (by omega)) ?_
    refine lv_goto (tgt := 21) hx hb dX0_codeOrSeparator_16 (by decide) ?_
    have hP : va_P G vwCl (cat [ctW cyI A T]) H := hP
    have hD : va_D A9 (cat [ctW cyI A T]) := hD
    exact end_i hx hb hr hlocks hK hP hD hS (by first | (rw [ctAt, if_neg (by omega)]; done) | (rw [ctAt, if_pos (by omega)]; done)) dX0_codeOrSeparator_21
abbrev rm_X0_findError : Room := { frames := 3, cells := 0, slots := 0, locals := 63 }
set_option maxHeartbeats 4000000 in
set_option maxRecDepth 100000 in
theorem c_X0_findError (l : Launch) (G : va_G) (cyI cyO : ClassId) (A : Nat → Nat) (T : TS) (hT : T.2 ≤ 60) : CI l G (TY cyI cyO) yX0_findError wsX0_findError rm_X0_findError [.ref (A 0)] [ctW cyI A T] (nI (ctErr T)) [ctW cyI A T] := by
  refine wk_I (cc := cX0_findError) (maxL := 3) (ret := (some .int)) (by decide) rfl (Nat.le_of_ble_eq_true rfl) ?_
  intro p9 e9 s9 m9 b9 t9 c9 A9 ls hx hb hr hts hown hlocks hml hK hA hD hP hl hS hnm
  have hl : lv_has ls 3 [(0, .ref (A 0))] := hl
  have hinX0 : ∀ w ∈ wsX00, w ∈ wsX0_findError := by decide +kernel
  have hf14 := hts (.fieldLink RX0 14 "DoorstepRounds$ChangeText" "codes" "LDoorstepRounds$Row;") (by decide +kernel)
  have hf20 := hts (.fieldLink RX0 20 "DoorstepRounds$ChangeText" "length" "I") (by decide +kernel)
  refine lv_iconst (v := (0 : Int32)) hx hb dX0_findError_0 (by decide) ?_
  refine lv_istore_n (lv' := [(1, .int ((0 : Int32))), (0, .ref (A 0))]) hx hb dX0_findError_1 rfl hl (by decide) rfl (fun ls hl => ?_)
  refine lv_iconst (v := (0 : Int32)) hx hb dX0_findError_2 (by decide) ?_
  refine lv_istore_n (lv' := [(2, .int ((0 : Int32))), (1, .int ((0 : Int32))), (0, .ref (A 0))]) hx hb dX0_findError_3 rfl hl (by decide) rfl (fun ls hl => ?_)
  refine W_loop (α := Nat × Int32) (I := fun a9 H locs ls => (a9.1 ≤ T.2) ∧ (a9.2 = ctScan T.1 a9.1) ∧ (ctErr T = lsf (fun j => decide (ctScan T.1 (j + 1) = -1)) a9.1 (T.2 - a9.1)) ∧ va_P G vwCl (cat [ctW cyI A T]) H ∧ va_D A9 (cat [ctW cyI A T]) ∧ va_S A9 s9.heap H locs ∧ lv_has ls 3 [(2, .int (nI (a9.1))), (1, .int (a9.2)), (0, .ref (A 0))]) (μ := fun a9 => T.2 - a9.1) (st := fun a9 => []) ?_ (0, 0) _ _ _ ⟨(show 0 ≤ T.2 from Nat.zero_le _), (show 0 = ctScan T.1 0 from rfl), (show ctErr T = lsf (fun j => decide (ctScan T.1 (j + 1) = -1)) 0 (T.2 - 0) from rfl), hP, hD, hS, lv_sub hl [0, 1, 2] rfl⟩
  intro a9 ih_4 H locs ls hI
  obtain ⟨i, x⟩ := a9
  obtain ⟨hi9, he9, hf9, hP9, hD9, hS9, hl9⟩ := hI
  have hi : i ≤ T.2 := hi9
  have he : x = ctScan T.1 i := he9
  have hf : ctErr T = lsf (fun j => decide (ctScan T.1 (j + 1) = -1)) i (T.2 - i) := hf9
  have hP : va_P G vwCl (cat [ctW cyI A T]) H := hP9
  have hD : va_D A9 (cat [ctW cyI A T]) := hD9
  have hS := hS9
  have hl : lv_has ls 3 [(2, .int (nI (i))), (1, .int (x)), (0, .ref (A 0))] := hl9
  clear hi9 he9 hf9 hP9 hD9 hS9 hl9
  refine lv_iload_n hx hb dX0_findError_4 rfl (lv_at hl 0 rfl) ?_
  refine lv_aload_n hx hb dX0_findError_5 rfl (lv_at hl 2 rfl) ?_
  refine va_get (v := .int (nI (T.2))) (C := RX0) (T := TX0) (N := 2) hx hb hts hinX0 hown hK hP 0 rfl rfl 1 (by decide) hf20 (fun _ h9 => h9) rfl dX0_findError_6 ?_
  refine lv_icmp_ge (tgt := 38) hx hb dX0_findError_9 (by decide) (fun c_9 => ?_) (fun c_9 => ?_)
  · have c_9 : (T.2) ≤ (i) := (nI_leI (a := T.2) (b := i) (by omega) (by omega)).mp c_9
    refine lv_aload_n hx hb dX0_findError_38 rfl (lv_at hl 2 rfl) ?_
    refine va_get (v := .int (nI (T.2))) (C := RX0) (T := TX0) (N := 2) hx hb hts hinX0 hown hK hP 0 rfl rfl 1 (by decide) hf20 (fun _ h9 => h9) rfl dX0_findError_39 ?_
    obtain rfl : T.2 = i := by omega
    have hP : va_P G vwCl (cat [ctW cyI A T]) H := hP
    have hD : va_D A9 (cat [ctW cyI A T]) := hD
    exact end_i hx hb hr hlocks hK hP hD hS (by rw [hf, Nat.sub_self]; rfl) dX0_findError_42
  · have c_9 : ¬ (T.2) ≤ (i) := fun h9 => c_9 ((nI_leI (a := T.2) (b := i) (by omega) (by omega)).mpr h9)
    refine lv_iload_n hx hb dX0_findError_12 rfl (lv_at hl 1 rfl) ?_
    refine lv_aload_n hx hb dX0_findError_13 rfl (lv_at hl 2 rfl) ?_
    refine va_get (v := .ref (A 1)) (C := RX0) (T := TX0) (N := 2) hx hb hts hinX0 hown hK hP 0 rfl rfl 0 (by decide) hf14 (fun _ h9 => h9) rfl dX0_findError_14 ?_
    refine lv_iload_n hx hb dX0_findError_17 rfl (lv_at hl 0 rfl) ?_
    have hP : va_P G vwCl (cat [[(A 0, .inr (0, [.ref (A 1), .int (nI (T.2))]))], rowW cyI (A 1) (A 2) (60) (T.1)]) H := hP
    have hD : va_D A9 (cat [[(A 0, .inr (0, [.ref (A 1), .int (nI (T.2))]))], rowW cyI (A 1) (A 2) (60) (T.1)]) := hD
    refine gVi (gs := [[(A 0, .inr (0, [.ref (A 1), .int (nI (T.2))]))], rowW cyI (A 1) (A 2) (60) (T.1)]) (As := [.int (nI (i))]) (rest := [.int (x)]) ⟨hx, hb, hml, hown, hts⟩ (c_X3_at l G cyI cyO (A 1) (A 2) 60 T.1 (nI (i)) (by omega)) (cwV 1 hts gX0_findError_X3_at rfl rfl rfl (by decide +kernel) ⟨Nat.le_of_ble_eq_true rfl, Nat.le_of_ble_eq_true rfl⟩) hK hP hD hS hA [1] rfl rfl rfl 0 3 rfl rfl rfl hl.1 rfl (Nat.le_of_ble_eq_true rfl) dX0_findError_18 ⟨Nat.le_refl _, Nat.le_refl _⟩ (fun H locs hP hD hS => ?_)
    have hP : va_P G vwCl (cat [[(A 0, .inr (0, [.ref (A 1), .int (nI (T.2))]))], rowW cyI (A 1) (A 2) (60) (T.1)]) H := hP
    have hD : va_D A9 (cat [[(A 0, .inr (0, [.ref (A 1), .int (nI (T.2))]))], rowW cyI (A 1) (A 2) (60) (T.1)]) := hD
    refine top_i (x' := T.1 i) (rowAt_in (by omega) (by omega)) ?_
    refine gSi (gs := [[(A 0, .inr (0, [.ref (A 1), .int (nI (T.2))]))], rowW cyI (A 1) (A 2) (60) (T.1)]) (As := [.int (x), .int (T.1 i)]) (rest := []) ⟨hx, hb, hml, hown, hts⟩ (c_X0_readNext l G cyI cyO x (T.1 i)) (va_cwS 2 hts gX0_findError_X0_readNext rfl rfl rfl (by decide +kernel) ⟨Nat.le_of_ble_eq_true rfl, Nat.le_of_ble_eq_true rfl⟩) hK hP hD hS hA [] rfl rfl rfl rfl hl.1 rfl (Nat.le_of_ble_eq_true rfl) dX0_findError_21 ⟨Nat.le_refl _, Nat.le_refl _⟩ (fun H locs hP hD hS => ?_)
    have hP : va_P G vwCl (cat [[(A 0, .inr (0, [.ref (A 1), .int (nI (T.2))]))], rowW cyI (A 1) (A 2) (60) (T.1)]) H := hP
    have hD : va_D A9 (cat [[(A 0, .inr (0, [.ref (A 1), .int (nI (T.2))]))], rowW cyI (A 1) (A 2) (60) (T.1)]) := hD
    refine lv_istore_n (lv' := [(1, .int (rNext x (T.1 i))), (2, .int (nI (i))), (0, .ref (A 0))]) hx hb dX0_findError_24 rfl hl (by decide) rfl (fun ls hl => ?_)
    refine lv_iload_n hx hb dX0_findError_25 rfl (lv_at hl 0 rfl) ?_
    refine lv_iconst (v := (-1 : Int32)) hx hb dX0_findError_26 (by decide) ?_
    refine lv_icmp_ne (tgt := 32) hx hb dX0_findError_27 (by decide) (fun c_27 => ?_) (fun c_27 => ?_)
    · refine lv_iinc (v := nI (i + 1)) (lv' := [(2, .int (nI (i + 1))), (1, .int (rNext x (T.1 i))), (0, .ref (A 0))]) hx hb dX0_findError_32 hl (k := 1) rfl (nI_add _ _) (by decide) rfl (fun ls hl => ?_)
      refine lv_goto (tgt := 4) hx hb dX0_findError_35 (by decide) ?_
      exact ih_4 (i + 1, rNext x (T.1 i)) (by show (T.2 - (i + 1)) < (T.2 - i); omega) _ _ _ ⟨(show (i + 1) ≤ T.2 from by omega), (show (rNext x (T.1 i)) = ctScan T.1 (i + 1) from by rw [he]; rfl), (show ctErr T = lsf (fun j => decide (ctScan T.1 (j + 1) = -1)) (i + 1) (T.2 - (i + 1)) from by rw [hf]; exact lsf_no (by omega) (fun h9 => c_27 (by rw [he]; exact of_decide_eq_true h9))), hP, hD, hS, lv_sub hl [0, 1, 2] rfl⟩
    · refine lv_iload_n hx hb dX0_findError_30 rfl (lv_at hl 1 rfl) ?_
      have hP : va_P G vwCl (cat [ctW cyI A T]) H := hP
      have hD : va_D A9 (cat [ctW cyI A T]) := hD
      exact end_i hx hb hr hlocks hK hP hD hS (by rw [hf]; exact congrArg nI (lsf_yes (by omega) (decide_eq_true (by have h9 := c_27; rw [he] at h9; exact h9))).symm) dX0_findError_31
abbrev rm_X0_isComplete : Room := { frames := 3, cells := 0, slots := 0, locals := 63 }
set_option maxHeartbeats 4000000 in
set_option maxRecDepth 100000 in
theorem c_X0_isComplete (l : Launch) (G : va_G) (cyI cyO : ClassId) (A : Nat → Nat) (T : TS) (hT : T.2 ≤ 60) : CI l G (TY cyI cyO) yX0_isComplete wsX0_isComplete rm_X0_isComplete [.ref (A 0)] [ctW cyI A T] (bI (ctFull T)) [ctW cyI A T] := by
  refine wk_I (cc := cX0_isComplete) (maxL := 3) (ret := (some .boolean)) (by decide) rfl (Nat.le_of_ble_eq_true rfl) ?_
  intro p9 e9 s9 m9 b9 t9 c9 A9 ls hx hb hr hts hown hlocks hml hK hA hD hP hl hS hnm
  have hl : lv_has ls 3 [(0, .ref (A 0))] := hl
  have hinX0 : ∀ w ∈ wsX00, w ∈ wsX0_isComplete := by decide +kernel
  have hf14 := hts (.fieldLink RX0 14 "DoorstepRounds$ChangeText" "codes" "LDoorstepRounds$Row;") (by decide +kernel)
  have hf20 := hts (.fieldLink RX0 20 "DoorstepRounds$ChangeText" "length" "I") (by decide +kernel)
  refine lv_iconst (v := (0 : Int32)) hx hb dX0_isComplete_0 (by decide) ?_
  refine lv_istore_n (lv' := [(1, .int ((0 : Int32))), (0, .ref (A 0))]) hx hb dX0_isComplete_1 rfl hl (by decide) rfl (fun ls hl => ?_)
  refine lv_iconst (v := (0 : Int32)) hx hb dX0_isComplete_2 (by decide) ?_
  refine lv_istore_n (lv' := [(2, .int ((0 : Int32))), (1, .int ((0 : Int32))), (0, .ref (A 0))]) hx hb dX0_isComplete_3 rfl hl (by decide) rfl (fun ls hl => ?_)
  refine W_loop (α := Nat × Int32) (I := fun a9 H locs ls => (a9.1 ≤ T.2) ∧ (a9.2 = ctScan T.1 a9.1) ∧ va_P G vwCl (cat [ctW cyI A T]) H ∧ va_D A9 (cat [ctW cyI A T]) ∧ va_S A9 s9.heap H locs ∧ lv_has ls 3 [(2, .int (nI (a9.1))), (1, .int (a9.2)), (0, .ref (A 0))]) (μ := fun a9 => T.2 - a9.1) (st := fun a9 => []) ?_ (0, 0) _ _ _ ⟨(show 0 ≤ T.2 from Nat.zero_le _), (show 0 = ctScan T.1 0 from rfl), hP, hD, hS, lv_sub hl [0, 1, 2] rfl⟩
  intro a9 ih_4 H locs ls hI
  obtain ⟨i, x⟩ := a9
  obtain ⟨hi9, he9, hP9, hD9, hS9, hl9⟩ := hI
  have hi : i ≤ T.2 := hi9
  have he : x = ctScan T.1 i := he9
  have hP : va_P G vwCl (cat [ctW cyI A T]) H := hP9
  have hD : va_D A9 (cat [ctW cyI A T]) := hD9
  have hS := hS9
  have hl : lv_has ls 3 [(2, .int (nI (i))), (1, .int (x)), (0, .ref (A 0))] := hl9
  clear hi9 he9 hP9 hD9 hS9 hl9
  refine lv_iload_n hx hb dX0_isComplete_4 rfl (lv_at hl 0 rfl) ?_
  refine lv_aload_n hx hb dX0_isComplete_5 rfl (lv_at hl 2 rfl) ?_
  refine va_get (v := .int (nI (T.2))) (C := RX0) (T := TX0) (N := 2) hx hb hts hinX0 hown hK hP 0 rfl rfl 1 (by decide) hf20 (fun _ h9 => h9) rfl dX0_isComplete_6 ?_
  refine lv_icmp_ge (tgt := 36) hx hb dX0_isComplete_9 (by decide) (fun c_9 => ?_) (fun c_9 => ?_)
  · have c_9 : (T.2) ≤ (i) := (nI_leI (a := T.2) (b := i) (by omega) (by omega)).mp c_9
    obtain rfl : T.2 = i := by omega
    have hq : ctScan T.1 T.2 = x := he.symm
    refine lv_iload_n hx hb dX0_isComplete_36 rfl (lv_at hl 1 rfl) ?_
    refine lv_iconst (v := (5 : Int32)) hx hb dX0_isComplete_37 (by decide) ?_
    refine lv_icmp_eq (tgt := 46) hx hb dX0_isComplete_38 (by decide) (fun c_38 => ?_) (fun c_38 => ?_)
    · refine lv_iconst (v := (1 : Int32)) hx hb dX0_isComplete_46 (by decide) ?_
      refine lv_goto (tgt := 51) hx hb dX0_isComplete_47 (by decide) ?_
      have hP : va_P G vwCl (cat [ctW cyI A T]) H := hP
      have hD : va_D A9 (cat [ctW cyI A T]) := hD
      exact end_z hx hb hr hlocks hK hP hD hS (by first | (simp [ctFull, bI, hq, c_9, c_38]; done) | exact absurd (c_14.symm.trans c_38) (by decide) | exact absurd (c_14.symm.trans c_43) (by decide)) (Or.inr rfl) dX0_isComplete_51
    · refine lv_iload_n hx hb dX0_isComplete_41 rfl (lv_at hl 1 rfl) ?_
      refine lv_iconst (v := (3 : Int32)) hx hb dX0_isComplete_42 (by decide) ?_
      refine lv_icmp_ne (tgt := 50) hx hb dX0_isComplete_43 (by decide) (fun c_43 => ?_) (fun c_43 => ?_)
      · refine lv_iconst (v := (0 : Int32)) hx hb dX0_isComplete_50 (by decide) ?_
        have hP : va_P G vwCl (cat [ctW cyI A T]) H := hP
        have hD : va_D A9 (cat [ctW cyI A T]) := hD
        exact end_z hx hb hr hlocks hK hP hD hS (by first | (simp [ctFull, bI, hq, c_9, c_38, c_43]; done) | exact absurd (c_14.symm.trans c_38) (by decide) | exact absurd (c_14.symm.trans c_43) (by decide)) (Or.inl rfl) dX0_isComplete_51
      · refine lv_iconst (v := (1 : Int32)) hx hb dX0_isComplete_46 (by decide) ?_
        refine lv_goto (tgt := 51) hx hb dX0_isComplete_47 (by decide) ?_
        have hP : va_P G vwCl (cat [ctW cyI A T]) H := hP
        have hD : va_D A9 (cat [ctW cyI A T]) := hD
        exact end_z hx hb hr hlocks hK hP hD hS (by first | (simp [ctFull, bI, hq, c_9, c_38, c_43]; done) | exact absurd (c_14.symm.trans c_38) (by decide) | exact absurd (c_14.symm.trans c_43) (by decide)) (Or.inr rfl) dX0_isComplete_51
  · have c_9 : ¬ (T.2) ≤ (i) := fun h9 => c_9 ((nI_leI (a := T.2) (b := i) (by omega) (by omega)).mpr h9)
    refine lv_iload_n hx hb dX0_isComplete_12 rfl (lv_at hl 1 rfl) ?_
    refine lv_iconst (v := (-1 : Int32)) hx hb dX0_isComplete_13 (by decide) ?_
    refine lv_icmp_eq (tgt := 36) hx hb dX0_isComplete_14 (by decide) (fun c_14 => ?_) (fun c_14 => ?_)
    · have hq : ctScan T.1 T.2 = x := (ctScan_bad (by omega) (he ▸ c_14)).trans c_14.symm
      refine lv_iload_n hx hb dX0_isComplete_36 rfl (lv_at hl 1 rfl) ?_
      refine lv_iconst (v := (5 : Int32)) hx hb dX0_isComplete_37 (by decide) ?_
      refine lv_icmp_eq (tgt := 46) hx hb dX0_isComplete_38 (by decide) (fun c_38 => ?_) (fun c_38 => ?_)
      · refine lv_iconst (v := (1 : Int32)) hx hb dX0_isComplete_46 (by decide) ?_
        refine lv_goto (tgt := 51) hx hb dX0_isComplete_47 (by decide) ?_
        have hP : va_P G vwCl (cat [ctW cyI A T]) H := hP
        have hD : va_D A9 (cat [ctW cyI A T]) := hD
        exact end_z hx hb hr hlocks hK hP hD hS (by first | (simp [ctFull, bI, hq, c_9, c_14, c_38]; done) | exact absurd (c_14.symm.trans c_38) (by decide) | exact absurd (c_14.symm.trans c_43) (by decide)) (Or.inr rfl) dX0_isComplete_51
      · refine lv_iload_n hx hb dX0_isComplete_41 rfl (lv_at hl 1 rfl) ?_
        refine lv_iconst (v := (3 : Int32)) hx hb dX0_isComplete_42 (by decide) ?_
        refine lv_icmp_ne (tgt := 50) hx hb dX0_isComplete_43 (by decide) (fun c_43 => ?_) (fun c_43 => ?_)
        · refine lv_iconst (v := (0 : Int32)) hx hb dX0_isComplete_50 (by decide) ?_
          have hP : va_P G vwCl (cat [ctW cyI A T]) H := hP
          have hD : va_D A9 (cat [ctW cyI A T]) := hD
          exact end_z hx hb hr hlocks hK hP hD hS (by first | (simp [ctFull, bI, hq, c_9, c_14, c_38, c_43]; done) | exact absurd (c_14.symm.trans c_38) (by decide) | exact absurd (c_14.symm.trans c_43) (by decide)) (Or.inl rfl) dX0_isComplete_51
        · refine lv_iconst (v := (1 : Int32)) hx hb dX0_isComplete_46 (by decide) ?_
          refine lv_goto (tgt := 51) hx hb dX0_isComplete_47 (by decide) ?_
          have hP : va_P G vwCl (cat [ctW cyI A T]) H := hP
          have hD : va_D A9 (cat [ctW cyI A T]) := hD
          exact end_z hx hb hr hlocks hK hP hD hS (by first | (simp [ctFull, bI, hq, c_9, c_14, c_38, c_43]; done) | exact absurd (c_14.symm.trans c_38) (by decide) | exact absurd (c_14.symm.trans c_43) (by decide)) (Or.inr rfl) dX0_isComplete_51
    · refine lv_iload_n hx hb dX0_isComplete_17 rfl (lv_at hl 1 rfl) ?_
      refine lv_aload_n hx hb dX0_isComplete_18 rfl (lv_at hl 2 rfl) ?_
      refine va_get (v := .ref (A 1)) (C := RX0) (T := TX0) (N := 2) hx hb hts hinX0 hown hK hP 0 rfl rfl 0 (by decide) hf14 (fun _ h9 => h9) rfl dX0_isComplete_19 ?_
      refine lv_iload_n hx hb dX0_isComplete_22 rfl (lv_at hl 0 rfl) ?_
      have hP : va_P G vwCl (cat [[(A 0, .inr (0, [.ref (A 1), .int (nI (T.2))]))], rowW cyI (A 1) (A 2) (60) (T.1)]) H := hP
      have hD : va_D A9 (cat [[(A 0, .inr (0, [.ref (A 1), .int (nI (T.2))]))], rowW cyI (A 1) (A 2) (60) (T.1)]) := hD
      refine gVi (gs := [[(A 0, .inr (0, [.ref (A 1), .int (nI (T.2))]))], rowW cyI (A 1) (A 2) (60) (T.1)]) (As := [.int (nI (i))]) (rest := [.int (x)]) ⟨hx, hb, hml, hown, hts⟩ (c_X3_at l G cyI cyO (A 1) (A 2) 60 T.1 (nI (i)) (by omega)) (cwV 1 hts gX0_isComplete_X3_at rfl rfl rfl (by decide +kernel) ⟨Nat.le_of_ble_eq_true rfl, Nat.le_of_ble_eq_true rfl⟩) hK hP hD hS hA [1] rfl rfl rfl 0 3 rfl rfl rfl hl.1 rfl (Nat.le_of_ble_eq_true rfl) dX0_isComplete_23 ⟨Nat.le_refl _, Nat.le_refl _⟩ (fun H locs hP hD hS => ?_)
      have hP : va_P G vwCl (cat [[(A 0, .inr (0, [.ref (A 1), .int (nI (T.2))]))], rowW cyI (A 1) (A 2) (60) (T.1)]) H := hP
      have hD : va_D A9 (cat [[(A 0, .inr (0, [.ref (A 1), .int (nI (T.2))]))], rowW cyI (A 1) (A 2) (60) (T.1)]) := hD
      refine top_i (x' := T.1 i) (rowAt_in (by omega) (by omega)) ?_
      refine gSi (gs := [[(A 0, .inr (0, [.ref (A 1), .int (nI (T.2))]))], rowW cyI (A 1) (A 2) (60) (T.1)]) (As := [.int (x), .int (T.1 i)]) (rest := []) ⟨hx, hb, hml, hown, hts⟩ (c_X0_readNext l G cyI cyO x (T.1 i)) (va_cwS 2 hts gX0_isComplete_X0_readNext rfl rfl rfl (by decide +kernel) ⟨Nat.le_of_ble_eq_true rfl, Nat.le_of_ble_eq_true rfl⟩) hK hP hD hS hA [] rfl rfl rfl rfl hl.1 rfl (Nat.le_of_ble_eq_true rfl) dX0_isComplete_26 ⟨Nat.le_refl _, Nat.le_refl _⟩ (fun H locs hP hD hS => ?_)
      have hP : va_P G vwCl (cat [[(A 0, .inr (0, [.ref (A 1), .int (nI (T.2))]))], rowW cyI (A 1) (A 2) (60) (T.1)]) H := hP
      have hD : va_D A9 (cat [[(A 0, .inr (0, [.ref (A 1), .int (nI (T.2))]))], rowW cyI (A 1) (A 2) (60) (T.1)]) := hD
      refine lv_istore_n (lv' := [(1, .int (rNext x (T.1 i))), (2, .int (nI (i))), (0, .ref (A 0))]) hx hb dX0_isComplete_29 rfl hl (by decide) rfl (fun ls hl => ?_)
      refine lv_iinc (v := nI (i + 1)) (lv' := [(2, .int (nI (i + 1))), (1, .int (rNext x (T.1 i))), (0, .ref (A 0))]) hx hb dX0_isComplete_30 hl (k := 1) rfl (nI_add _ _) (by decide) rfl (fun ls hl => ?_)
      refine lv_goto (tgt := 4) hx hb dX0_isComplete_33 (by decide) ?_
      exact ih_4 (i + 1, rNext x (T.1 i)) (by show (T.2 - (i + 1)) < (T.2 - i); omega) _ _ _ ⟨(show (i + 1) ≤ T.2 from by omega), (show (rNext x (T.1 i)) = ctScan T.1 (i + 1) from by rw [he]; rfl), hP, hD, hS, lv_sub hl [0, 1, 2] rfl⟩

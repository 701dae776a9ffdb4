/-! ===== DoorstepRounds: a text is run ===== -/
abbrev CRS : Type := SS × DS × Nat × Int32 × Nat × Bool
def crStep (C : TS) (i : Nat) (q : CRS) : CRS :=
  if q.2.2.2.2.2 = false then q
  else if ctAt C i = 59 then ((pGo q.1 q.2.1 q.2.2.2.1 q.2.2.2.2.1).1, (pGo q.1 q.2.1 q.2.2.2.1 q.2.2.2.2.1).2, if pMay q.2.1 q.2.2.2.1 q.2.2.2.2.1 = true then q.2.2.1 + 1 else q.2.2.1, 0, 0, pMay q.2.1 q.2.2.2.1 q.2.2.2.2.1)
  else if q.2.2.2.1 = 0 then (q.1, q.2.1, q.2.2.1, ctAt C i, q.2.2.2.2.1, q.2.2.2.2.2)
  else (q.1, q.2.1, q.2.2.1, q.2.2.2.1, 10 * q.2.2.2.2.1 + (ctAt C i - 48).toNatClampNeg, q.2.2.2.2.2)
def crAll (C : TS) (S : SS) (D : DS) (i : Nat) : CRS := itr i (crStep C) (S, D, 0, 0, 0, true)
theorem cr_stop {C : TS} {S : SS} {D : DS} {i : Nat} (h : (crAll C S D i).2.2.2.2.2 = false) : ∀ t, crAll C S D (i + t) = crAll C S D i := by
  intro t
  induction t with
  | zero => rfl
  | succ t ih =>
    show crStep C (i + t) (crAll C S D (i + t)) = _
    rw [ih]
    unfold crStep
    rw [if_pos h]
/-- what has been read of a part, in the words of the run -/
def okR (r u : Int32) (v : Nat) : Prop := (r = 0 ∧ u = 0 ∧ v = 0) ∨ (r = 1 ∧ u = 43 ∧ v = 0) ∨ (r = 2 ∧ u = 45 ∧ v = 0) ∨ (r = 3 ∧ u = 45 ∧ v = 1) ∨ (r = 4 ∧ (u = 99 ∨ u = 108) ∧ v = 0) ∨
  (r = 5 ∧ ((u = 43 ∧ 1 ≤ v ∧ v ≤ 9) ∨ (u = 45 ∧ v < 20) ∨ ((u = 99 ∨ u = 108) ∧ v < 6) ∨ ((u = 112 ∨ u = 104 ∨ u = 120 ∨ u = 100) ∧ v = 0)))
theorem dig_d {c : Int32} {a b : Nat} (ha : a < 1000) (hb : b < 1000) (h : isDig c (nI a) (nI b) = true) : ∃ d, a ≤ d ∧ d ≤ b ∧ c = nI d := by
  unfold isDig at h
  simp only [Bool.and_eq_true, Bool.not_eq_true', decide_eq_false_iff_not] at h
  have h0 : ¬ c < 0 := fun h9 => h.1 (by
    rw [Int32.lt_iff_toInt_lt] at h9 ⊢
    rw [nI_toInt (by omega)]
    have : (0 : Int32).toInt = 0 := by decide
    omega)
  obtain ⟨d, hd, rfl⟩ := nI_of h0
  rw [nI_ltI (by omega) (by omega), nI_ltI (by omega) (by omega)] at h
  exact ⟨d, by omega, by omega, rfl⟩
theorem dig_t {a b d : Nat} (ha : a < 1000) (hb : b < 1000) (hd : d < 1000) : isDig (nI d) (nI a) (nI b) = true ↔ a ≤ d ∧ d ≤ b := by
  unfold isDig
  simp only [Bool.and_eq_true, Bool.not_eq_true', decide_eq_false_iff_not]
  rw [nI_ltI (by omega) (by omega), nI_ltI (by omega) (by omega)]
  omega
theorem nI_sub {a b : Nat} (h : b ≤ a) : nI a - nI b = nI (a - b) := by
  have h1 : nI a = nI (a - b) + nI b := by rw [nI_add, Nat.sub_add_cancel h]
  rw [h1, Int32.add_sub_cancel]
theorem nI_48 : (48 : Int32) = nI 48 := by decide +kernel
theorem cr_num {c : Int32} {v d : Nat} (h1 : 48 ≤ d) (h2 : d ≤ 57) (h : c = nI d) : nI (10 * v) + c - 48 = nI (10 * v + (c - 48).toNatClampNeg) ∧ (c - 48).toNatClampNeg = d - 48 := by
  subst h
  have e : nI d - 48 = nI (d - 48) := by rw [nI_48, nI_sub h1]
  rw [e, nI_clamp (by omega), ← nI_add, ← e, Int32.sub_eq_add_neg, Int32.sub_eq_add_neg, Int32.add_assoc]
  exact ⟨rfl, rfl⟩
theorem rSep_0 {c : Int32} (h : ¬ rSep c = -1) : c = 59 ∧ rSep c = 0 := by
  unfold rSep at h ⊢
  by_cases e : c = 59
  · rw [if_pos e]; exact ⟨e, rfl⟩
  · rw [if_neg e] at h; exact absurd rfl h
theorem okR_5 {u : Int32} {v : Nat} (h : (u = 43 ∧ 1 ≤ v ∧ v ≤ 9) ∨ (u = 45 ∧ v < 20) ∨ ((u = 99 ∨ u = 108) ∧ v < 6) ∨ ((u = 112 ∨ u = 104 ∨ u = 120 ∨ u = 100) ∧ v = 0)) : okR 5 u v := Or.inr (Or.inr (Or.inr (Or.inr (Or.inr ⟨rfl, h⟩))))
theorem rk_ok {c : Int32} (h : ¬ rKind c = -1) : ¬ c = 59 ∧ okR (rKind c) c 0 := by
  unfold rKind at h ⊢
  by_cases c1 : c = 43
  · subst c1; exact ⟨by decide, Or.inr (Or.inl ⟨rfl, rfl, rfl⟩)⟩
  rw [if_neg c1] at h ⊢
  by_cases c2 : c = 45
  · subst c2; exact ⟨by decide, Or.inr (Or.inr (Or.inl ⟨rfl, rfl, rfl⟩))⟩
  rw [if_neg c2] at h ⊢
  by_cases c3 : c = 99
  · subst c3; exact ⟨by decide, Or.inr (Or.inr (Or.inr (Or.inr (Or.inl ⟨rfl, Or.inl rfl, rfl⟩))))⟩
  rw [if_neg c3] at h ⊢
  by_cases c4 : c = 100
  · subst c4; exact ⟨by decide, okR_5 (by simp)⟩
  rw [if_neg c4] at h ⊢
  by_cases c5 : c = 104
  · subst c5; exact ⟨by decide, okR_5 (by simp)⟩
  rw [if_neg c5] at h ⊢
  by_cases c6 : c = 108
  · subst c6; exact ⟨by decide, Or.inr (Or.inr (Or.inr (Or.inr (Or.inl ⟨rfl, Or.inr rfl, rfl⟩))))⟩
  rw [if_neg c6] at h ⊢
  by_cases c7 : c = 112
  · subst c7; exact ⟨by decide, okR_5 (by simp)⟩
  rw [if_neg c7] at h ⊢
  by_cases c8 : c = 120
  · subst c8; exact ⟨by decide, okR_5 (by simp)⟩
  rw [if_neg c8] at h
  exact absurd rfl h
/-- a digit behind a kind -/
def okD (r c u : Int32) (v : Nat) : Prop := ¬ c = 59 ∧ ¬ u = 0 ∧ ∃ d, 48 ≤ d ∧ d ≤ 57 ∧ c = nI d ∧ okR r u (10 * v + (d - 48))
theorem dig_59 {d : Nat} (h1 : 48 ≤ d) (h2 : d ≤ 57) : ¬ nI d = 59 := by
  rw [show (59 : Int32) = nI 59 by decide +kernel, nI_eq (by omega) (by omega)]; omega
theorem rn_ok {r c u : Int32} {v : Nat} (h : okR r u v) (hb : ¬ rNext r c = -1) : (c = 59 ∧ (r = 3 ∨ r = 5) ∧ rNext r c = 0) ∨ (¬ c = 59 ∧ u = 0 ∧ v = 0 ∧ okR (rNext r c) c 0) ∨ okD (rNext r c) c u v := by
  rcases h with ⟨rfl, rfl, rfl⟩ | ⟨rfl, rfl, rfl⟩ | ⟨rfl, rfl, rfl⟩ | ⟨rfl, rfl, rfl⟩ | ⟨rfl, hu, rfl⟩ | ⟨rfl, hu⟩
  · have e : rNext 0 c = rKind c := rfl
    rw [e] at hb ⊢
    obtain ⟨h1, h2⟩ := rk_ok hb
    exact Or.inr (Or.inl ⟨h1, rfl, rfl, h2⟩)
  · have e : rNext 1 c = if isDig c 49 57 = true then 5 else -1 := rfl
    rw [e] at hb ⊢
    by_cases hd : isDig c 49 57 = true
    · rw [if_pos hd]
      obtain ⟨d, d1, d2, rfl⟩ := dig_d (a := 49) (b := 57) (by omega) (by omega) hd
      exact Or.inr (Or.inr ⟨dig_59 (by omega) d2, by decide, d, by omega, d2, rfl, okR_5 (Or.inl ⟨rfl, by omega, by omega⟩)⟩)
    · rw [if_neg hd] at hb; exact absurd rfl hb
  · have e : rNext 2 c = rDoor c := rfl
    rw [e] at hb ⊢
    unfold rDoor at hb ⊢
    by_cases hd : isDig c 48 57 = true
    · rw [if_pos hd]
      obtain ⟨d, d1, d2, rfl⟩ := dig_d (a := 48) (b := 57) (by omega) (by omega) hd
      refine Or.inr (Or.inr ⟨dig_59 d1 d2, by decide, d, d1, d2, rfl, ?_⟩)
      by_cases h1 : nI d = 49
      · have h2 : d = 49 := (nI_eq (a := d) (b := 49) (by omega) (by omega)).mp h1
        subst h2
        rw [if_pos h1]
        exact Or.inr (Or.inr (Or.inr (Or.inl ⟨rfl, rfl, rfl⟩)))
      · rw [if_neg h1]; exact okR_5 (Or.inr (Or.inl ⟨rfl, by omega⟩))
    · rw [if_neg hd] at hb; exact absurd rfl hb
  · have e : rNext 3 c = if isDig c 48 57 = true then 5 else rSep c := rfl
    rw [e] at hb ⊢
    by_cases hd : isDig c 48 57 = true
    · rw [if_pos hd]
      obtain ⟨d, d1, d2, rfl⟩ := dig_d (a := 48) (b := 57) (by omega) (by omega) hd
      exact Or.inr (Or.inr ⟨dig_59 d1 d2, by decide, d, d1, d2, rfl, okR_5 (Or.inr (Or.inl ⟨rfl, by omega⟩))⟩)
    · rw [if_neg hd] at hb ⊢
      exact Or.inl ⟨(rSep_0 hb).1, Or.inl rfl, (rSep_0 hb).2⟩
  · have e : rNext 4 c = if isDig c 48 53 = true then 5 else -1 := rfl
    rw [e] at hb ⊢
    by_cases hd : isDig c 48 53 = true
    · rw [if_pos hd]
      obtain ⟨d, d1, d2, rfl⟩ := dig_d (a := 48) (b := 53) (by omega) (by omega) hd
      exact Or.inr (Or.inr ⟨dig_59 d1 (by omega), by rcases hu with rfl | rfl <;> decide, d, d1, by omega, rfl, okR_5 (Or.inr (Or.inr (Or.inl ⟨hu, by omega⟩)))⟩)
    · rw [if_neg hd] at hb; exact absurd rfl hb
  · have e : rNext 5 c = rSep c := rfl
    rw [e] at hb ⊢
    exact Or.inl ⟨(rSep_0 hb).1, Or.inr rfl, (rSep_0 hb).2⟩
theorem okR_v {r u : Int32} {v : Nat} (h : okR r u v) : v < 1000 ∧ (u = 99 ∨ u = 108 → v < 6) := by
  rcases h with ⟨-, rfl, rfl⟩ | ⟨-, rfl, rfl⟩ | ⟨-, rfl, rfl⟩ | ⟨-, rfl, rfl⟩ | ⟨-, hu, rfl⟩ | ⟨-, h⟩
  · exact ⟨by omega, fun _ => by omega⟩
  · exact ⟨by omega, fun _ => by omega⟩
  · exact ⟨by omega, fun _ => by omega⟩
  · exact ⟨by omega, fun _ => by omega⟩
  · exact ⟨by omega, fun _ => by omega⟩
  · rcases h with ⟨rfl, h1, h2⟩ | ⟨rfl, h1⟩ | ⟨h0, h1⟩ | ⟨h0, rfl⟩
    · exact ⟨by omega, fun h => by rcases h with h | h <;> exact absurd h (by decide)⟩
    · exact ⟨by omega, fun h => by rcases h with h | h <;> exact absurd h (by decide)⟩
    · exact ⟨by omega, fun _ => h1⟩
    · exact ⟨by omega, fun _ => by omega⟩
theorem pGo_n {S : SS} {D : DS} {u : Int32} {v : Nat} (hn : D.2.2.2.2.2.1 ≤ 20) : (pGo S D u v).2.2.2.2.2.2.1 ≤ 20 := by
  unfold pGo
  by_cases hm : pMay D u v = true
  · rw [if_pos hm]
    by_cases c1 : u = 43
    · rw [pDo_43 S D v c1]
      rw [pMay_43 D v c1] at hm
      have := mayAdd_lt hm
      show D.2.2.2.2.2.1 + 1 ≤ 20
      omega
    by_cases c2 : u = 45
    · rw [pDo_45 S D v c2]; show D.2.2.2.2.2.1 - 1 ≤ 20; omega
    by_cases c3 : u = 99
    · rw [pDo_99 S D v c3]; exact hn
    by_cases c4 : u = 104
    · rw [pDo_104 S D v c4]; show (dNext D).2.2.2.2.2.1 ≤ 20; unfold dNext; split <;> exact hn
    by_cases c5 : u = 108
    · rw [pDo_108 S D v c5]; exact hn
    by_cases c6 : u = 112
    · rw [pDo_112 S D v c6]; show (mpD S D).2.2.2.2.2.1 ≤ 20; unfold mpD; split <;> exact hn
    by_cases c7 : u = 120
    · rw [pDo_120 S D v c7]; exact hn
    have e := pDo_0 S D v c1 c2 c3 c4 c5 c6 c7
    rw [e]; exact hn
  · rw [if_neg hm]; exact hn
/-- a complete text has no error anywhere -/
theorem full_ne {C : TS} (h : ctFull C = true) {i : Nat} (hi : i ≤ C.2) : ¬ ctScan C.1 i = -1 := by
  intro h9
  have h8 := ctScan_bad hi h9
  unfold ctFull at h
  rw [h8] at h
  exact absurd h (by decide)
theorem full_end {C : TS} (h : ctFull C = true) : ctScan C.1 C.2 = 5 ∨ ctScan C.1 C.2 = 3 := by
  unfold ctFull at h
  simpa using h
theorem ct_in {C : TS} {i : Nat} (hi : i < C.2) : ctAt C i = C.1 i := if_pos hi
theorem ct_out {C : TS} {i : Nat} (hi : ¬ i < C.2) : ctAt C i = 59 := if_neg hi
/-- the invariant of the run's loop -/
def RI (C : TS) (i : Nat) (u : Int32) (v : Nat) : Prop := i ≤ C.2 → okR (ctScan C.1 i) u v
theorem ri_next {C : TS} (h : ctFull C = true) {i : Nat} {u : Int32} {v : Nat} (hi : i < C.2) (hr : RI C i u v) :
    (C.1 i = 59 ∧ (ctScan C.1 i = 3 ∨ ctScan C.1 i = 5) ∧ ctScan C.1 (i + 1) = 0) ∨ (¬ C.1 i = 59 ∧ u = 0 ∧ v = 0 ∧ okR (ctScan C.1 (i + 1)) (C.1 i) 0) ∨ okD (ctScan C.1 (i + 1)) (C.1 i) u v :=
  rn_ok (hr (by omega)) (full_ne h (i := i + 1) hi)
theorem ri_sep {C : TS} (h : ctFull C = true) {i : Nat} {u : Int32} {v : Nat} (hc : ctAt C i = 59) (hr : RI C i u v) : RI C (i + 1) 0 0 := by
  intro hi
  rw [ct_in (by omega)] at hc
  rcases ri_next h (by omega) hr with ⟨-, -, h1⟩ | ⟨h1, -⟩ | ⟨h1, -⟩
  · exact Or.inl ⟨h1, rfl, rfl⟩
  · exact absurd hc h1
  · exact absurd hc h1
theorem ri_kind {C : TS} (h : ctFull C = true) {i : Nat} {u : Int32} {v : Nat} (hc : ¬ ctAt C i = 59) (hu : u = 0) (hr : RI C i u v) : RI C (i + 1) (ctAt C i) v := by
  intro hi
  rw [ct_in (by omega)] at hc ⊢
  rcases ri_next h (by omega) hr with ⟨h1, -⟩ | ⟨-, -, h0, h1⟩ | ⟨-, h1, -⟩
  · exact absurd h1 hc
  · subst h0; exact h1
  · exact absurd hu h1
theorem ri_dig {C : TS} (h : ctFull C = true) {i : Nat} {u : Int32} {v : Nat} (hi : i ≤ C.2) (hc : ¬ ctAt C i = 59) (hu : ¬ u = 0) (hr : RI C i u v) : ∃ d, 48 ≤ d ∧ d ≤ 57 ∧ ctAt C i = nI d ∧ RI C (i + 1) u (10 * v + (d - 48)) := by
  have hi2 : i < C.2 := by
    by_cases h9 : i < C.2
    · exact h9
    · exact absurd (ct_out h9) hc
  rw [ct_in hi2] at hc ⊢
  rcases ri_next h hi2 hr with ⟨h1, -⟩ | ⟨-, h0, -⟩ | ⟨-, -, d, d1, d2, d3, d4⟩
  · exact absurd h1 hc
  · exact absurd h0 hu
  · exact ⟨d, d1, d2, d3, fun _ => d4⟩

abbrev rm_X5_run : Room := { frames := 6, cells := 0, slots := 0, locals := 135 }
set_option maxHeartbeats 4000000 in
set_option maxRecDepth 100000 in
theorem c_X5_run (l : Launch) (G : va_G) (cyI cyO : ClassId) (h : Nat) (Ad At As Ac : Nat → Nat) (L : Nat → Nat → Nat) (S : SS) (D : DS) (C : TS) (V : HS) (hn : D.2.2.2.2.2.1 ≤ 20) (hC : C.2 ≤ 60) (hV : V.1 ≤ 6) (hm : ctFull C = true) (qS : SS) (qD : DS) (qd : Nat) (qu : Int32) (qv : Nat) (qg : Bool) (hq : crAll C S D (C.2 + 1) = (qS, qD, qd, qu, qv, qg)) : CI l G (TY cyI cyO) yX5_run wsX5_run rm_X5_run [.ref (h)] [[(h, .inr (5, [.ref (Ad 0), .ref (At 0), .ref (As 0), .ref (Ac 0), .ref (L 6 0)]))], shW cyI As S, dyW cyI Ad D, ctW cyI Ac C, hiW cyI cyO L V] (nI (qd)) [[(h, .inr (5, [.ref (Ad 0), .ref (At 0), .ref (As 0), .ref (Ac 0), .ref (L 6 0)]))], shW cyI As qS, dyW cyI Ad qD, ctW cyI Ac ((C.1, 0)), hiW cyI cyO (svM L V) (svS V D)] := by
  refine wk_I (cc := cX5_run) (maxL := 7) (ret := (some .int)) (by decide) rfl (Nat.le_of_ble_eq_true rfl) ?_
  intro p9 e9 s9 m9 b9 t9 c9 A9 ls hx hb hr hts hown hlocks hml hK hA hD hP hl hS hnm
  have hl : lv_has ls 7 [(0, .ref (h))] := hl
  have hinX5 : ∀ w ∈ wsX50, w ∈ wsX5_run := by decide +kernel
  have hf10 := hts (.fieldLink RX5 10 "DoorstepRounds" "dairy" "LDoorstepRounds$Dairy;") (by decide +kernel)
  have hf29 := hts (.fieldLink RX5 29 "DoorstepRounds" "text" "LDoorstepRounds$ChangeText;") (by decide +kernel)
  have hf36 := hts (.fieldLink RX5 36 "DoorstepRounds" "history" "LDoorstepRounds$History;") (by decide +kernel)
  refine lv_aload_n hx hb dX5_run_0 rfl (lv_at hl 0 rfl) ?_
  refine va_get (v := .ref (Ac 0)) (C := RX5) (T := TX5) (N := 5) hx hb hts hinX5 hown hK hP 0 rfl rfl 3 (by decide) hf29 (fun _ h9 => h9) rfl dX5_run_1 ?_
  refine gVi (gs := [[(h, .inr (5, [.ref (Ad 0), .ref (At 0), .ref (As 0), .ref (Ac 0), .ref (L 6 0)]))], shW cyI As S, dyW cyI Ad D, ctW cyI Ac C, hiW cyI cyO L V]) (As := []) (rest := []) ⟨hx, hb, hml, hown, hts⟩ (c_X0_isComplete l G cyI cyO Ac C (by omega)) (cwV 0 hts gX5_run_X0_isComplete rfl rfl rfl (by decide +kernel) ⟨Nat.le_of_ble_eq_true rfl, Nat.le_of_ble_eq_true rfl⟩) hK hP hD hS hA [3] rfl rfl rfl 0 0 rfl rfl rfl hl.1 rfl (Nat.le_of_ble_eq_true rfl) dX5_run_4 ⟨Nat.le_refl _, Nat.le_refl _⟩ (fun H locs hP hD hS => ?_)
  have hP : va_P G vwCl (cat [[(h, .inr (5, [.ref (Ad 0), .ref (At 0), .ref (As 0), .ref (Ac 0), .ref (L 6 0)]))], shW cyI As S, dyW cyI Ad D, ctW cyI Ac C, hiW cyI cyO L V]) H := hP
  have hD : va_D A9 (cat [[(h, .inr (5, [.ref (Ad 0), .ref (At 0), .ref (As 0), .ref (Ac 0), .ref (L 6 0)]))], shW cyI As S, dyW cyI Ad D, ctW cyI Ac C, hiW cyI cyO L V]) := hD
  refine lv_if_ne (tgt := 20) hx hb dX5_run_7 (by decide) (fun c_7 => ?_) (fun c_7 => ?_)
  · have c_7 : (ctFull C) = true := bI_nz.mp c_7
    refine lv_aload_n hx hb dX5_run_20 rfl (lv_at hl 0 rfl) ?_
    refine va_get (v := .ref (L 6 0)) (C := RX5) (T := TX5) (N := 5) hx hb hts hinX5 hown hK hP 0 rfl rfl 4 (by decide) hf36 (fun _ h9 => h9) rfl dX5_run_21 ?_
    refine lv_aload_n hx hb dX5_run_24 rfl (lv_at hl 0 rfl) ?_
    refine va_get (v := .ref (Ad 0)) (C := RX5) (T := TX5) (N := 5) hx hb hts hinX5 hown hK hP 0 rfl rfl 0 (by decide) hf10 (fun _ h9 => h9) rfl dX5_run_25 ?_
    refine gVv (gs := [[(h, .inr (5, [.ref (Ad 0), .ref (At 0), .ref (As 0), .ref (Ac 0), .ref (L 6 0)]))], shW cyI As S, dyW cyI Ad D, ctW cyI Ac C, hiW cyI cyO L V]) (As := [.ref (Ad 0)]) (rest := []) ⟨hx, hb, hml, hown, hts⟩ (c_X2_saveS l G cyI cyO L V Ad D (by omega)) (cwV 1 hts gX5_run_X2_save rfl rfl rfl (by decide +kernel) ⟨Nat.le_of_ble_eq_true rfl, Nat.le_of_ble_eq_true rfl⟩) hK hP hD hS hA [4, 2] rfl rfl rfl 0 2 rfl rfl rfl hl.1 rfl (Nat.le_of_ble_eq_true rfl) dX5_run_28 ⟨Nat.le_refl _, Nat.le_refl _⟩ (fun H locs hP hD hS => ?_)
    have hP : va_P G vwCl (cat [[(h, .inr (5, [.ref (Ad 0), .ref (At 0), .ref (As 0), .ref (Ac 0), .ref (L 6 0)]))], shW cyI As S, dyW cyI Ad D, ctW cyI Ac C, hiW cyI cyO (svM L V) (svS V D)]) H := hP
    have hD : va_D A9 (cat [[(h, .inr (5, [.ref (Ad 0), .ref (At 0), .ref (As 0), .ref (Ac 0), .ref (L 6 0)]))], shW cyI As S, dyW cyI Ad D, ctW cyI Ac C, hiW cyI cyO (svM L V) (svS V D)]) := hD
    refine lv_iconst (v := (0 : Int32)) hx hb dX5_run_31 (by decide) ?_
    refine lv_istore_n (lv' := [(1, .int ((0 : Int32))), (0, .ref (h))]) hx hb dX5_run_32 rfl hl (by decide) rfl (fun ls hl => ?_)
    refine lv_iconst (v := (0 : Int32)) hx hb dX5_run_33 (by decide) ?_
    refine lv_istore_n (lv' := [(2, .int ((0 : Int32))), (1, .int ((0 : Int32))), (0, .ref (h))]) hx hb dX5_run_34 rfl hl (by decide) rfl (fun ls hl => ?_)
    refine lv_iconst (v := (0 : Int32)) hx hb dX5_run_35 (by decide) ?_
    refine lv_istore_n (lv' := [(3, .int ((0 : Int32))), (2, .int ((0 : Int32))), (1, .int ((0 : Int32))), (0, .ref (h))]) hx hb dX5_run_36 rfl hl (by decide) rfl (fun ls hl => ?_)
    refine lv_iconst (v := (1 : Int32)) hx hb dX5_run_37 (by decide) ?_
    refine lv_istore (lv' := [(4, .int ((1 : Int32))), (3, .int ((0 : Int32))), (2, .int ((0 : Int32))), (1, .int ((0 : Int32))), (0, .ref (h))]) hx hb dX5_run_38 hl (by decide) rfl (fun ls hl => ?_)
    refine lv_iconst (v := (0 : Int32)) hx hb dX5_run_40 (by decide) ?_
    refine lv_istore (lv' := [(5, .int ((0 : Int32))), (4, .int ((1 : Int32))), (3, .int ((0 : Int32))), (2, .int ((0 : Int32))), (1, .int ((0 : Int32))), (0, .ref (h))]) hx hb dX5_run_41 hl (by decide) rfl (fun ls hl => ?_)
    refine W_loop (α := Nat × SS × DS × Nat × Int32 × Nat × Bool) (I := fun a9 H locs ls => (a9.1 ≤ C.2 + 1) ∧ ((a9.2.1, a9.2.2.1, a9.2.2.2.1, a9.2.2.2.2.1, a9.2.2.2.2.2.1, a9.2.2.2.2.2.2) = crAll C S D a9.1) ∧ (a9.2.2.2.2.2.2 = true → RI C a9.1 a9.2.2.2.2.1 a9.2.2.2.2.2.1) ∧ (a9.2.2.1.2.2.2.2.2.1 ≤ 20) ∧ va_P G vwCl (cat [[(h, .inr (5, [.ref (Ad 0), .ref (At 0), .ref (As 0), .ref (Ac 0), .ref (L 6 0)]))], shW cyI As a9.2.1, dyW cyI Ad a9.2.2.1, ctW cyI Ac C, hiW cyI cyO (svM L V) (svS V D)]) H ∧ va_D A9 (cat [[(h, .inr (5, [.ref (Ad 0), .ref (At 0), .ref (As 0), .ref (Ac 0), .ref (L 6 0)]))], shW cyI As a9.2.1, dyW cyI Ad a9.2.2.1, ctW cyI Ac C, hiW cyI cyO (svM L V) (svS V D)]) ∧ va_S A9 s9.heap H locs ∧ lv_has ls 7 [(5, .int (nI (a9.1))), (4, .int (bI (a9.2.2.2.2.2.2))), (3, .int (nI (a9.2.2.2.2.2.1))), (2, .int (a9.2.2.2.2.1)), (1, .int (nI (a9.2.2.2.1))), (0, .ref (h))]) (μ := fun a9 => C.2 + 1 - a9.1) (st := fun a9 => []) ?_ (0, S, D, 0, 0, 0, true) _ _ _ ⟨(show 0 ≤ C.2 + 1 from by omega), (show (S, D, 0, 0, 0, true) = crAll C S D 0 from rfl), (show true = true → RI C 0 0 0 from fun _ _ => Or.inl ⟨rfl, rfl, rfl⟩), (show D.2.2.2.2.2.1 ≤ 20 from hn), hP, hD, hS, lv_sub hl [0, 1, 2, 3, 4, 5] rfl⟩
    intro a9 ih_43 H locs ls hI
    obtain ⟨i, S1, D1, dn, u, v, g⟩ := a9
    obtain ⟨hi9, he9, hri9, hn19, hP9, hD9, hS9, hl9⟩ := hI
    have hi : i ≤ C.2 + 1 := hi9
    have he : (S1, D1, dn, u, v, g) = crAll C S D i := he9
    have hri : g = true → RI C i u v := hri9
    have hn1 : D1.2.2.2.2.2.1 ≤ 20 := hn19
    have hP : va_P G vwCl (cat [[(h, .inr (5, [.ref (Ad 0), .ref (At 0), .ref (As 0), .ref (Ac 0), .ref (L 6 0)]))], shW cyI As S1, dyW cyI Ad D1, ctW cyI Ac C, hiW cyI cyO (svM L V) (svS V D)]) H := hP9
    have hD : va_D A9 (cat [[(h, .inr (5, [.ref (Ad 0), .ref (At 0), .ref (As 0), .ref (Ac 0), .ref (L 6 0)]))], shW cyI As S1, dyW cyI Ad D1, ctW cyI Ac C, hiW cyI cyO (svM L V) (svS V D)]) := hD9
    have hS := hS9
    have hl : lv_has ls 7 [(5, .int (nI (i))), (4, .int (bI (g))), (3, .int (nI (v))), (2, .int (u)), (1, .int (nI (dn))), (0, .ref (h))] := hl9
    clear hi9 he9 hri9 hn19 hP9 hD9 hS9 hl9
    refine lv_iload hx hb dX5_run_43 (lv_at hl 0 rfl) ?_
    refine lv_aload_n hx hb dX5_run_45 rfl (lv_at hl 5 rfl) ?_
    refine va_get (v := .ref (Ac 0)) (C := RX5) (T := TX5) (N := 5) hx hb hts hinX5 hown hK hP 0 rfl rfl 3 (by decide) hf29 (fun _ h9 => h9) rfl dX5_run_46 ?_
    refine gVi (gs := [[(h, .inr (5, [.ref (Ad 0), .ref (At 0), .ref (As 0), .ref (Ac 0), .ref (L 6 0)]))], shW cyI As S1, dyW cyI Ad D1, ctW cyI Ac C, hiW cyI cyO (svM L V) (svS V D)]) (As := []) (rest := [.int (nI (i))]) ⟨hx, hb, hml, hown, hts⟩ (c_X0_countCodes l G cyI cyO Ac C) (cwV 0 hts gX5_run_X0_countCodes rfl rfl rfl (by decide +kernel) ⟨Nat.le_of_ble_eq_true rfl, Nat.le_of_ble_eq_true rfl⟩) hK hP hD hS hA [3] rfl rfl rfl 0 0 rfl rfl rfl hl.1 rfl (Nat.le_of_ble_eq_true rfl) dX5_run_49 ⟨Nat.le_refl _, Nat.le_refl _⟩ (fun H locs hP hD hS => ?_)
    have hP : va_P G vwCl (cat [[(h, .inr (5, [.ref (Ad 0), .ref (At 0), .ref (As 0), .ref (Ac 0), .ref (L 6 0)]))], shW cyI As S1, dyW cyI Ad D1, ctW cyI Ac C, hiW cyI cyO (svM L V) (svS V D)]) H := hP
    have hD : va_D A9 (cat [[(h, .inr (5, [.ref (Ad 0), .ref (At 0), .ref (As 0), .ref (Ac 0), .ref (L 6 0)]))], shW cyI As S1, dyW cyI Ad D1, ctW cyI Ac C, hiW cyI cyO (svM L V) (svS V D)]) := hD
    refine lv_icmp_gt (tgt := 133) hx hb dX5_run_52 (by decide) (fun c_52 => ?_) (fun c_52 => ?_)
    · have c_52 : (C.2) < (i) := (nI_ltI (a := C.2) (b := i) (by omega) (by omega)).mp c_52
      obtain rfl : C.2 + 1 = i := by omega
      have hqe : (S1, D1, dn, u, v, g) = (qS, qD, qd, qu, qv, qg) := by rw [← hq, he]
      obtain rfl : qS = S1 := (congrArg (fun q => q.1) hqe).symm
      obtain rfl : qD = D1 := (congrArg (fun q => q.2.1) hqe).symm
      obtain rfl : qd = dn := (congrArg (fun q => q.2.2.1) hqe).symm
      refine lv_aload_n hx hb dX5_run_133 rfl (lv_at hl 5 rfl) ?_
      refine va_get (v := .ref (Ac 0)) (C := RX5) (T := TX5) (N := 5) hx hb hts hinX5 hown hK hP 0 rfl rfl 3 (by decide) hf29 (fun _ h9 => h9) rfl dX5_run_134 ?_
      refine gVi (gs := [[(h, .inr (5, [.ref (Ad 0), .ref (At 0), .ref (As 0), .ref (Ac 0), .ref (L 6 0)]))], shW cyI As qS, dyW cyI Ad qD, ctW cyI Ac C, hiW cyI cyO (svM L V) (svS V D)]) (As := []) (rest := []) ⟨hx, hb, hml, hown, hts⟩ (c_X0_empty l G cyI cyO Ac C) (cwV 0 hts gX5_run_X0_empty rfl rfl rfl (by decide +kernel) ⟨Nat.le_of_ble_eq_true rfl, Nat.le_of_ble_eq_true rfl⟩) hK hP hD hS hA [3] rfl rfl rfl 0 0 rfl rfl rfl hl.1 rfl (Nat.le_of_ble_eq_true rfl) dX5_run_137 ⟨Nat.le_refl _, Nat.le_refl _⟩ (fun H locs hP hD hS => ?_)
      have hP : va_P G vwCl (cat [[(h, .inr (5, [.ref (Ad 0), .ref (At 0), .ref (As 0), .ref (Ac 0), .ref (L 6 0)]))], shW cyI As qS, dyW cyI Ad qD, ctW cyI Ac ((C.1, 0)), hiW cyI cyO (svM L V) (svS V D)]) H := hP
      have hD : va_D A9 (cat [[(h, .inr (5, [.ref (Ad 0), .ref (At 0), .ref (As 0), .ref (Ac 0), .ref (L 6 0)]))], shW cyI As qS, dyW cyI Ad qD, ctW cyI Ac ((C.1, 0)), hiW cyI cyO (svM L V) (svS V D)]) := hD
      refine lv_pop hx hb dX5_run_140 rfl ?_
      refine lv_iload_n hx hb dX5_run_141 rfl (lv_at hl 4 rfl) ?_
      have hP : va_P G vwCl (cat [[(h, .inr (5, [.ref (Ad 0), .ref (At 0), .ref (As 0), .ref (Ac 0), .ref (L 6 0)]))], shW cyI As qS, dyW cyI Ad qD, ctW cyI Ac ((C.1, 0)), hiW cyI cyO (svM L V) (svS V D)]) H := hP
      have hD : va_D A9 (cat [[(h, .inr (5, [.ref (Ad 0), .ref (At 0), .ref (As 0), .ref (Ac 0), .ref (L 6 0)]))], shW cyI As qS, dyW cyI Ad qD, ctW cyI Ac ((C.1, 0)), hiW cyI cyO (svM L V) (svS V D)]) := hD
      exact end_i hx hb hr hlocks hK hP hD hS (rfl) dX5_run_142
    · have c_52 : ¬ (C.2) < (i) := fun h9 => c_52 ((nI_ltI (a := C.2) (b := i) (by omega) (by omega)).mpr h9)
      refine lv_iload hx hb dX5_run_55 (lv_at hl 1 rfl) ?_
      refine lv_if_eq (tgt := 133) hx hb dX5_run_57 (by decide) (fun c_57 => ?_) (fun c_57 => ?_)
      · have c_57 : (g) = false := bI_z.mp c_57
        have hqe : (S1, D1, dn, u, v, g) = (qS, qD, qd, qu, qv, qg) := by
          rw [← hq, he]
          have h9 : (crAll C S D i).2.2.2.2.2 = false := by rw [← he]; exact c_57
          have h8 := cr_stop h9 (C.2 + 1 - i)
          rw [show i + (C.2 + 1 - i) = C.2 + 1 by omega] at h8
          exact h8.symm
        obtain rfl : qS = S1 := (congrArg (fun q => q.1) hqe).symm
        obtain rfl : qD = D1 := (congrArg (fun q => q.2.1) hqe).symm
        obtain rfl : qd = dn := (congrArg (fun q => q.2.2.1) hqe).symm
        refine lv_aload_n hx hb dX5_run_133 rfl (lv_at hl 5 rfl) ?_
        refine va_get (v := .ref (Ac 0)) (C := RX5) (T := TX5) (N := 5) hx hb hts hinX5 hown hK hP 0 rfl rfl 3 (by decide) hf29 (fun _ h9 => h9) rfl dX5_run_134 ?_
        refine gVi (gs := [[(h, .inr (5, [.ref (Ad 0), .ref (At 0), .ref (As 0), .ref (Ac 0), .ref (L 6 0)]))], shW cyI As qS, dyW cyI Ad qD, ctW cyI Ac C, hiW cyI cyO (svM L V) (svS V D)]) (As := []) (rest := []) ⟨hx, hb, hml, hown, hts⟩ (c_X0_empty l G cyI cyO Ac C) (cwV 0 hts gX5_run_X0_empty rfl rfl rfl (by decide +kernel) ⟨Nat.le_of_ble_eq_true rfl, Nat.le_of_ble_eq_true rfl⟩) hK hP hD hS hA [3] rfl rfl rfl 0 0 rfl rfl rfl hl.1 rfl (Nat.le_of_ble_eq_true rfl) dX5_run_137 ⟨Nat.le_refl _, Nat.le_refl _⟩ (fun H locs hP hD hS => ?_)
        have hP : va_P G vwCl (cat [[(h, .inr (5, [.ref (Ad 0), .ref (At 0), .ref (As 0), .ref (Ac 0), .ref (L 6 0)]))], shW cyI As qS, dyW cyI Ad qD, ctW cyI Ac ((C.1, 0)), hiW cyI cyO (svM L V) (svS V D)]) H := hP
        have hD : va_D A9 (cat [[(h, .inr (5, [.ref (Ad 0), .ref (At 0), .ref (As 0), .ref (Ac 0), .ref (L 6 0)]))], shW cyI As qS, dyW cyI Ad qD, ctW cyI Ac ((C.1, 0)), hiW cyI cyO (svM L V) (svS V D)]) := hD
        refine lv_pop hx hb dX5_run_140 rfl ?_
        refine lv_iload_n hx hb dX5_run_141 rfl (lv_at hl 4 rfl) ?_
        have hP : va_P G vwCl (cat [[(h, .inr (5, [.ref (Ad 0), .ref (At 0), .ref (As 0), .ref (Ac 0), .ref (L 6 0)]))], shW cyI As qS, dyW cyI Ad qD, ctW cyI Ac ((C.1, 0)), hiW cyI cyO (svM L V) (svS V D)]) H := hP
        have hD : va_D A9 (cat [[(h, .inr (5, [.ref (Ad 0), .ref (At 0), .ref (As 0), .ref (Ac 0), .ref (L 6 0)]))], shW cyI As qS, dyW cyI Ad qD, ctW cyI Ac ((C.1, 0)), hiW cyI cyO (svM L V) (svS V D)]) := hD
        exact end_i hx hb hr hlocks hK hP hD hS (rfl) dX5_run_142
      · have c_57 : (g) = true := bI_nz.mp c_57
        have hr1 := hri c_57
        have hr9 := hr1 (by omega)
        refine lv_aload_n hx hb dX5_run_60 rfl (lv_at hl 5 rfl) ?_
        refine va_get (v := .ref (Ac 0)) (C := RX5) (T := TX5) (N := 5) hx hb hts hinX5 hown hK hP 0 rfl rfl 3 (by decide) hf29 (fun _ h9 => h9) rfl dX5_run_61 ?_
        refine lv_iload hx hb dX5_run_64 (lv_at hl 0 rfl) ?_
        refine gVi (gs := [[(h, .inr (5, [.ref (Ad 0), .ref (At 0), .ref (As 0), .ref (Ac 0), .ref (L 6 0)]))], shW cyI As S1, dyW cyI Ad D1, ctW cyI Ac C, hiW cyI cyO (svM L V) (svS V D)]) (As := [.int (nI (i))]) (rest := []) ⟨hx, hb, hml, hown, hts⟩ (c_X0_codeOrSeparator l G cyI cyO Ac C i (by omega) (by omega)) (cwV 1 hts gX5_run_X0_codeOrSeparator rfl rfl rfl (by decide +kernel) ⟨Nat.le_of_ble_eq_true rfl, Nat.le_of_ble_eq_true rfl⟩) hK hP hD hS hA [3] rfl rfl rfl 0 0 rfl rfl rfl hl.1 rfl (Nat.le_of_ble_eq_true rfl) dX5_run_66 ⟨Nat.le_refl _, Nat.le_refl _⟩ (fun H locs hP hD hS => ?_)
        have hP : va_P G vwCl (cat [[(h, .inr (5, [.ref (Ad 0), .ref (At 0), .ref (As 0), .ref (Ac 0), .ref (L 6 0)]))], shW cyI As S1, dyW cyI Ad D1, ctW cyI Ac C, hiW cyI cyO (svM L V) (svS V D)]) H := hP
        have hD : va_D A9 (cat [[(h, .inr (5, [.ref (Ad 0), .ref (At 0), .ref (As 0), .ref (Ac 0), .ref (L 6 0)]))], shW cyI As S1, dyW cyI Ad D1, ctW cyI Ac C, hiW cyI cyO (svM L V) (svS V D)]) := hD
        refine lv_istore (lv' := [(6, .int (ctAt C i)), (5, .int (nI (i))), (4, .int (bI (g))), (3, .int (nI (v))), (2, .int (u)), (1, .int (nI (dn))), (0, .ref (h))]) hx hb dX5_run_69 hl (by decide) rfl (fun ls hl => ?_)
        refine lv_iload hx hb dX5_run_71 (lv_at hl 0 rfl) ?_
        refine lv_bipush (v := (59 : Int32)) hx hb dX5_run_73 (by decide) ?_
        refine lv_icmp_ne (tgt := 106) hx hb dX5_run_75 (by decide) (fun c_75 => ?_) (fun c_75 => ?_)
        · refine lv_iload_n hx hb dX5_run_106 rfl (lv_at hl 4 rfl) ?_
          refine lv_if_ne (tgt := 116) hx hb dX5_run_107 (by decide) (fun c_107 => ?_) (fun c_107 => ?_)
          · obtain ⟨d, d1, d2, d3, d4⟩ := ri_dig hm (by omega) c_75 c_107 hr1
            obtain ⟨n1, n2⟩ := cr_num (v := v) d1 d2 d3
            have hr2 : g = true → RI C (i + 1) u (10 * v + (ctAt C i - 48).toNatClampNeg) := fun _ => by rw [n2]; exact d4
            refine lv_bipush (v := (10 : Int32)) hx hb dX5_run_116 (by decide) ?_
            refine lv_iload_n hx hb dX5_run_118 rfl (lv_at hl 3 rfl) ?_
            refine lv_imul hx hb dX5_run_119 ?_
            refine top_i (x' := nI (10 * v)) (pk_mul (10) (v)) ?_
            refine lv_iload hx hb dX5_run_120 (lv_at hl 0 rfl) ?_
            refine lv_iadd hx hb dX5_run_122 ?_
            refine lv_bipush (v := (48 : Int32)) hx hb dX5_run_123 (by decide) ?_
            refine lv_isub hx hb dX5_run_125 ?_
            refine top_i (x' := nI (10 * v + (ctAt C i - 48).toNatClampNeg)) (n1) ?_
            refine lv_istore_n (lv' := [(3, .int (nI (10 * v + (ctAt C i - 48).toNatClampNeg))), (6, .int (ctAt C i)), (5, .int (nI (i))), (4, .int (bI (g))), (2, .int (u)), (1, .int (nI (dn))), (0, .ref (h))]) hx hb dX5_run_126 rfl hl (by decide) rfl (fun ls hl => ?_)
            refine lv_iinc (v := nI (i + 1)) (lv' := [(5, .int (nI (i + 1))), (3, .int (nI (10 * v + (ctAt C i - 48).toNatClampNeg))), (6, .int (ctAt C i)), (4, .int (bI (g))), (2, .int (u)), (1, .int (nI (dn))), (0, .ref (h))]) hx hb dX5_run_127 hl (k := 2) rfl (nI_add _ _) (by decide) rfl (fun ls hl => ?_)
            refine lv_goto (tgt := 43) hx hb dX5_run_130 (by decide) ?_
            exact ih_43 (i + 1, S1, D1, dn, u, 10 * v + (ctAt C i - 48).toNatClampNeg, g) (by show (C.2 + 1 - (i + 1)) < (C.2 + 1 - i); omega) _ _ _ ⟨(show (i + 1) ≤ C.2 + 1 from by omega), (show (S1, D1, dn, u, (10 * v + (ctAt C i - 48).toNatClampNeg), g) = crAll C S D (i + 1) from by show _ = crStep C i (crAll C S D i); rw [← he]; simp [crStep, c_7, c_52, c_57, c_75, c_107]), (show g = true → RI C (i + 1) u (10 * v + (ctAt C i - 48).toNatClampNeg) from hr2), (show D1.2.2.2.2.2.1 ≤ 20 from by first | exact hn1 | exact pGo_n hn1), hP, hD, hS, lv_sub hl [0, 3, 1, 4, 5, 6] rfl⟩
          · have hr2 : g = true → RI C (i + 1) (ctAt C i) v := fun _ => ri_kind hm c_75 c_107 hr1
            refine lv_iload hx hb dX5_run_110 (lv_at hl 0 rfl) ?_
            refine lv_istore_n (lv' := [(2, .int (ctAt C i)), (6, .int (ctAt C i)), (5, .int (nI (i))), (4, .int (bI (g))), (3, .int (nI (v))), (1, .int (nI (dn))), (0, .ref (h))]) hx hb dX5_run_112 rfl hl (by decide) rfl (fun ls hl => ?_)
            refine lv_goto (tgt := 127) hx hb dX5_run_113 (by decide) ?_
            refine lv_iinc (v := nI (i + 1)) (lv' := [(5, .int (nI (i + 1))), (2, .int (ctAt C i)), (6, .int (ctAt C i)), (4, .int (bI (g))), (3, .int (nI (v))), (1, .int (nI (dn))), (0, .ref (h))]) hx hb dX5_run_127 hl (k := 2) rfl (nI_add _ _) (by decide) rfl (fun ls hl => ?_)
            refine lv_goto (tgt := 43) hx hb dX5_run_130 (by decide) ?_
            exact ih_43 (i + 1, S1, D1, dn, ctAt C i, v, g) (by show (C.2 + 1 - (i + 1)) < (C.2 + 1 - i); omega) _ _ _ ⟨(show (i + 1) ≤ C.2 + 1 from by omega), (show (S1, D1, dn, (ctAt C i), v, g) = crAll C S D (i + 1) from by show _ = crStep C i (crAll C S D i); rw [← he]; simp [crStep, c_7, c_52, c_57, c_75, c_107]), (show g = true → RI C (i + 1) (ctAt C i) v from hr2), (show D1.2.2.2.2.2.1 ≤ 20 from by first | exact hn1 | exact pGo_n hn1), hP, hD, hS, lv_sub hl [0, 3, 4, 1, 5, 6] rfl⟩
        · have hr2 : pMay D1 u v = true → RI C (i + 1) 0 0 := fun _ => ri_sep hm c_75 hr1
          refine lv_aload_n hx hb dX5_run_78 rfl (lv_at hl 6 rfl) ?_
          refine lv_iload_n hx hb dX5_run_79 rfl (lv_at hl 4 rfl) ?_
          refine lv_iload_n hx hb dX5_run_80 rfl (lv_at hl 3 rfl) ?_
          refine gVi (gs := [[(h, .inr (5, [.ref (Ad 0), .ref (At 0), .ref (As 0), .ref (Ac 0), .ref (L 6 0)]))], shW cyI As S1, dyW cyI Ad D1, ctW cyI Ac C, hiW cyI cyO (svM L V) (svS V D)]) (As := [.int (u), .int (nI (v))]) (rest := []) ⟨hx, hb, hml, hown, hts⟩ (c_X5_doPart l G cyI cyO h Ad At As Ac L S1 D1 u v ((okR_v hr9).1) ((okR_v hr9).2) (hn1)) (cwV 2 hts gX5_run_X5_doPart rfl rfl rfl (by decide +kernel) ⟨Nat.le_of_ble_eq_true rfl, Nat.le_of_ble_eq_true rfl⟩) hK hP hD hS hA [0, 1, 2] rfl rfl rfl 0 5 rfl rfl rfl hl.1 rfl (Nat.le_of_ble_eq_true rfl) dX5_run_81 ⟨Nat.le_refl _, Nat.le_refl _⟩ (fun H locs hP hD hS => ?_)
          have hP : va_P G vwCl (cat [[(h, .inr (5, [.ref (Ad 0), .ref (At 0), .ref (As 0), .ref (Ac 0), .ref (L 6 0)]))], shW cyI As ((pGo S1 D1 u v).1), dyW cyI Ad ((pGo S1 D1 u v).2), ctW cyI Ac C, hiW cyI cyO (svM L V) (svS V D)]) H := hP
          have hD : va_D A9 (cat [[(h, .inr (5, [.ref (Ad 0), .ref (At 0), .ref (As 0), .ref (Ac 0), .ref (L 6 0)]))], shW cyI As ((pGo S1 D1 u v).1), dyW cyI Ad ((pGo S1 D1 u v).2), ctW cyI Ac C, hiW cyI cyO (svM L V) (svS V D)]) := hD
          refine lv_istore (lv' := [(4, .int (bI (pMay D1 u v))), (6, .int (ctAt C i)), (5, .int (nI (i))), (3, .int (nI (v))), (2, .int (u)), (1, .int (nI (dn))), (0, .ref (h))]) hx hb dX5_run_84 hl (by decide) rfl (fun ls hl => ?_)
          refine lv_iload_n hx hb dX5_run_86 rfl (lv_at hl 5 rfl) ?_
          refine lv_iload hx hb dX5_run_87 (lv_at hl 0 rfl) ?_
          refine lv_if_eq (tgt := 96) hx hb dX5_run_89 (by decide) (fun c_89 => ?_) (fun c_89 => ?_)
          · have c_89 : (pMay D1 u v) = false := bI_z.mp c_89
            refine lv_iconst (v := (0 : Int32)) hx hb dX5_run_96 (by decide) ?_
            refine lv_iadd hx hb dX5_run_97 ?_
            refine top_i (x' := nI (dn + 0)) (nI_add (dn) (0)) ?_
            refine lv_istore_n (lv' := [(1, .int (nI (dn + 0))), (4, .int (bI (pMay D1 u v))), (6, .int (ctAt C i)), (5, .int (nI (i))), (3, .int (nI (v))), (2, .int (u)), (0, .ref (h))]) hx hb dX5_run_98 rfl hl (by decide) rfl (fun ls hl => ?_)
            refine lv_iconst (v := (0 : Int32)) hx hb dX5_run_99 (by decide) ?_
            refine lv_istore_n (lv' := [(2, .int ((0 : Int32))), (1, .int (nI (dn + 0))), (4, .int (bI (pMay D1 u v))), (6, .int (ctAt C i)), (5, .int (nI (i))), (3, .int (nI (v))), (0, .ref (h))]) hx hb dX5_run_100 rfl hl (by decide) rfl (fun ls hl => ?_)
            refine lv_iconst (v := (0 : Int32)) hx hb dX5_run_101 (by decide) ?_
            refine lv_istore_n (lv' := [(3, .int ((0 : Int32))), (2, .int ((0 : Int32))), (1, .int (nI (dn + 0))), (4, .int (bI (pMay D1 u v))), (6, .int (ctAt C i)), (5, .int (nI (i))), (0, .ref (h))]) hx hb dX5_run_102 rfl hl (by decide) rfl (fun ls hl => ?_)
            refine lv_goto (tgt := 127) hx hb dX5_run_103 (by decide) ?_
            refine lv_iinc (v := nI (i + 1)) (lv' := [(5, .int (nI (i + 1))), (3, .int ((0 : Int32))), (2, .int ((0 : Int32))), (1, .int (nI (dn + 0))), (4, .int (bI (pMay D1 u v))), (6, .int (ctAt C i)), (0, .ref (h))]) hx hb dX5_run_127 hl (k := 5) rfl (nI_add _ _) (by decide) rfl (fun ls hl => ?_)
            refine lv_goto (tgt := 43) hx hb dX5_run_130 (by decide) ?_
            exact ih_43 (i + 1, (pGo S1 D1 u v).1, (pGo S1 D1 u v).2, dn + 0, (0 : Int32), 0, pMay D1 u v) (by show (C.2 + 1 - (i + 1)) < (C.2 + 1 - i); omega) _ _ _ ⟨(show (i + 1) ≤ C.2 + 1 from by omega), (show (((pGo S1 D1 u v).1), ((pGo S1 D1 u v).2), (dn + 0), ((0 : Int32)), 0, (pMay D1 u v)) = crAll C S D (i + 1) from by show _ = crStep C i (crAll C S D i); rw [← he]; simp [crStep, c_7, c_52, c_57, c_75, c_89]), (show (pMay D1 u v) = true → RI C (i + 1) ((0 : Int32)) 0 from hr2), (show ((pGo S1 D1 u v).2).2.2.2.2.2.1 ≤ 20 from by first | exact hn1 | exact pGo_n hn1), hP, hD, hS, lv_sub hl [0, 4, 1, 2, 3, 6] rfl⟩
          · have c_89 : (pMay D1 u v) = true := bI_nz.mp c_89
            refine lv_iconst (v := (1 : Int32)) hx hb dX5_run_92 (by decide) ?_
            refine lv_goto (tgt := 97) hx hb dX5_run_93 (by decide) ?_
            refine lv_iadd hx hb dX5_run_97 ?_
            refine top_i (x' := nI (dn + 1)) (nI_add (dn) (1)) ?_
            refine lv_istore_n (lv' := [(1, .int (nI (dn + 1))), (4, .int (bI (pMay D1 u v))), (6, .int (ctAt C i)), (5, .int (nI (i))), (3, .int (nI (v))), (2, .int (u)), (0, .ref (h))]) hx hb dX5_run_98 rfl hl (by decide) rfl (fun ls hl => ?_)
            refine lv_iconst (v := (0 : Int32)) hx hb dX5_run_99 (by decide) ?_
            refine lv_istore_n (lv' := [(2, .int ((0 : Int32))), (1, .int (nI (dn + 1))), (4, .int (bI (pMay D1 u v))), (6, .int (ctAt C i)), (5, .int (nI (i))), (3, .int (nI (v))), (0, .ref (h))]) hx hb dX5_run_100 rfl hl (by decide) rfl (fun ls hl => ?_)
            refine lv_iconst (v := (0 : Int32)) hx hb dX5_run_101 (by decide) ?_
            refine lv_istore_n (lv' := [(3, .int ((0 : Int32))), (2, .int ((0 : Int32))), (1, .int (nI (dn + 1))), (4, .int (bI (pMay D1 u v))), (6, .int (ctAt C i)), (5, .int (nI (i))), (0, .ref (h))]) hx hb dX5_run_102 rfl hl (by decide) rfl (fun ls hl => ?_)
            refine lv_goto (tgt := 127) hx hb dX5_run_103 (by decide) ?_
            refine lv_iinc (v := nI (i + 1)) (lv' := [(5, .int (nI (i + 1))), (3, .int ((0 : Int32))), (2, .int ((0 : Int32))), (1, .int (nI (dn + 1))), (4, .int (bI (pMay D1 u v))), (6, .int (ctAt C i)), (0, .ref (h))]) hx hb dX5_run_127 hl (k := 5) rfl (nI_add _ _) (by decide) rfl (fun ls hl => ?_)
            refine lv_goto (tgt := 43) hx hb dX5_run_130 (by decide) ?_
            exact ih_43 (i + 1, (pGo S1 D1 u v).1, (pGo S1 D1 u v).2, dn + 1, (0 : Int32), 0, pMay D1 u v) (by show (C.2 + 1 - (i + 1)) < (C.2 + 1 - i); omega) _ _ _ ⟨(show (i + 1) ≤ C.2 + 1 from by omega), (show (((pGo S1 D1 u v).1), ((pGo S1 D1 u v).2), (dn + 1), ((0 : Int32)), 0, (pMay D1 u v)) = crAll C S D (i + 1) from by show _ = crStep C i (crAll C S D i); rw [← he]; simp [crStep, c_7, c_52, c_57, c_75, c_89]), (show (pMay D1 u v) = true → RI C (i + 1) ((0 : Int32)) 0 from hr2), (show ((pGo S1 D1 u v).2).2.2.2.2.2.1 ≤ 20 from by first | exact hn1 | exact pGo_n hn1), hP, hD, hS, lv_sub hl [0, 4, 1, 2, 3, 6] rfl⟩
  · have c_7 : (ctFull C) = false := bI_z.mp c_7
    rw [hm] at c_7; cases c_7

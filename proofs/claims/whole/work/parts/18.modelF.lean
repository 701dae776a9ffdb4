/-! ===== DoorstepRoundsModel: a text is run ===== -/
theorem rpF_nu (t : Nat → Int32) (L : Nat) (u v : Int32) (k : Nat) : (rpF t L u k).1 = (rpF t L v k).1 := by
  unfold rpF
  repeat' split
  all_goals rfl
theorem rd_neg {t : Nat → Int32} {L k : Nat} {lo hi : Int32} (hk : k < 1000) (h : rdR t L k lo hi < 0) : rdR t L k lo hi = -1 - nI k := by
  unfold rdR at h ⊢
  split
  · next hc => rw [if_pos hc] at h; exact absurd h (nI_pos (by omega))
  · rfl
theorem rp_neg {t : Nat → Int32} {L k : Nat} {nu : Int32} (hk : k < 900) (h : (rpF t L nu k).1 < 0) : ∃ j, j < 1000 ∧ (rpF t L nu k).1 = -1 - nI j := by
  have hp : ∀ j, j < 1000 → ¬ nI j < 0 := fun j hj => nI_pos (by omega)
  unfold rpF at h ⊢
  by_cases c1 : mAt t L k = 43
  · rw [if_pos c1] at h ⊢
    exact ⟨k + 1, by omega, rd_neg (by omega) h⟩
  rw [if_neg c1] at h ⊢
  by_cases c2 : mAt t L k = 45
  · rw [if_pos c2] at h ⊢
    by_cases d1 : rdR t L (k + 1) 0 9 ≤ 0
    · rw [if_pos d1] at h ⊢
      exact ⟨k + 1, by omega, rd_neg (by omega) h⟩
    · rw [if_neg d1] at h
      exfalso
      by_cases d2 : mAt t L (k + 1) - 48 = 1
      · rw [if_pos d2] at h
        by_cases d3 : isDig (mAt t L (k + 1 + 1)) 48 57 = true
        · rw [if_pos d3] at h; exact hp _ (by omega) h
        · rw [if_neg d3] at h; exact hp _ (by omega) h
      · rw [if_neg d2] at h; exact hp _ (by omega) h
  rw [if_neg c2] at h ⊢
  by_cases c3 : mAt t L k = 99
  · rw [if_pos c3] at h ⊢
    exact ⟨k + 1, by omega, rd_neg (by omega) h⟩
  rw [if_neg c3] at h ⊢
  by_cases c4 : mAt t L k = 100
  · rw [if_pos c4] at h; exact absurd h (hp _ (by omega))
  rw [if_neg c4] at h ⊢
  by_cases c5 : mAt t L k = 104
  · rw [if_pos c5] at h; exact absurd h (hp _ (by omega))
  rw [if_neg c5] at h ⊢
  by_cases c6 : mAt t L k = 108
  · rw [if_pos c6] at h ⊢
    exact ⟨k + 1, by omega, rd_neg (by omega) h⟩
  rw [if_neg c6] at h ⊢
  by_cases c7 : mAt t L k = 112
  · rw [if_pos c7] at h; exact absurd h (hp _ (by omega))
  rw [if_neg c7] at h ⊢
  by_cases c8 : mAt t L k = 120
  · rw [if_pos c8] at h; exact absurd h (hp _ (by omega))
  rw [if_neg c8]
  exact ⟨k, by omega, rfl⟩
theorem neg_neg (j : Nat) (hj : j < 1000) : ¬ (-1 - (-1 - nI j)) < 0 := by
  have : (-1 - (-1 - nI j) : Int32) = nI j := by
    rw [Int32.sub_eq_add_neg, Int32.neg_sub, Int32.sub_eq_add_neg, ← Int32.add_assoc, Int32.add_comm (-1) (nI j), Int32.add_assoc]
    exact Int32.add_zero _
  rw [this]
  exact nI_pos (by omega)
/-- from this place on, the rest of the text is complete -/
def CF (t : Nat → Int32) (L k : Nat) : Prop := ∃ (f : Nat) (nu : Int32), (feF t L f k nu).1 < 0
theorem cf_step {t : Nat → Int32} {L k : Nat} (hk : k < 900) (hL : L ≤ 60) (h : CF t L k) (v : Int32) : ∃ k2, (rpF t L v k).1 = nI k2 ∧ k < k2 ∧ k2 ≤ L ∧ (k2 + 1 < L → CF t L (k2 + 1)) := by
  obtain ⟨f, nu, h⟩ := h
  rw [rpF_nu t L v nu k]
  cases f with
  | zero => exact absurd h (by show ¬ (0 : Int32) < 0; decide)
  | succ f =>
    have e : feF t L (f + 1) k nu = if (rpF t L nu k).1 < 0 then (-1 - (rpF t L nu k).1, (rpF t L nu k).2.1, (rpF t L nu k).2.2)
      else if (rpF t L nu k).1 = nI L then (-1, (rpF t L nu k).2.1, (rpF t L nu k).2.2)
      else if t (rpF t L nu k).1.toNatClampNeg = 59 then feF t L f ((rpF t L nu k).1.toNatClampNeg + 1) (rpF t L nu k).2.2
      else ((rpF t L nu k).1, (rpF t L nu k).2.1, (rpF t L nu k).2.2) := rfl
    rw [e] at h
    by_cases c1 : (rpF t L nu k).1 < 0
    · rw [if_pos c1] at h
      obtain ⟨j, hj, ej⟩ := rp_neg hk c1
      have h : (-1 - (rpF t L nu k).1) < 0 := h
      rw [ej] at h
      exact absurd h (neg_neg j hj)
    · rw [if_neg c1] at h
      have hge : 0 ≤ (rpF t L nu k).1 := by
        rw [Int32.lt_iff_toInt_lt] at c1; rw [Int32.le_iff_toInt_le]; omega
      obtain ⟨k2, a1, a2, a3⟩ := rp_pos hk hge
      refine ⟨k2, a1, a2, a3, fun hl => ?_⟩
      by_cases c2 : (rpF t L nu k).1 = nI L
      · rw [a1] at c2
        have := (nI_eq (by omega) (by omega)).mp c2
        omega
      · rw [if_neg c2] at h
        by_cases c3 : t (rpF t L nu k).1.toNatClampNeg = 59
        · rw [if_pos c3, a1] at h
          rw [nI_clamp (by omega)] at h
          exact ⟨f, _, h⟩
        · rw [if_neg c3] at h
          exact absurd h c1
def rpS (M : MS) (k : Nat) : MS := (M.1, M.2.1, M.2.2.1, M.2.2.2.1, M.2.2.2.2.1, M.2.2.2.2.2.1, M.2.2.2.2.2.2.1, M.2.2.2.2.2.2.2.1, M.2.2.2.2.2.2.2.2.1, M.2.2.2.2.2.2.2.2.2.1, (rpF M.2.2.2.2.1 M.2.2.2.2.2.1 M.2.2.2.2.2.2.2.2.2.2.2 k).2.1, (rpF M.2.2.2.2.1 M.2.2.2.2.2.1 M.2.2.2.2.2.2.2.2.2.2.2 k).2.2)
def rnF : Nat → Nat → MS → Nat → MS × Nat
  | 0, _, M, x => (M, x)
  | f + 1, k, M, x => if k < M.2.2.2.2.2.1 then (if mNoPart (rpS M k) (mN M.2.1) = 0 then rnF f ((rpF M.2.2.2.2.1 M.2.2.2.2.2.1 M.2.2.2.2.2.2.2.2.2.2.2 k).1.toNatClampNeg + 1) (mDoPart (rpS M k) (mN M.2.1)).1 (x + 1) else (rpS M k, x)) else (M, x)
theorem rnF_end {f k x : Nat} {M : MS} (h : ¬ k < M.2.2.2.2.2.1) : rnF f k M x = (M, x) := by
  cases f with
  | zero => rfl
  | succ f => exact if_neg h
theorem rnF_go {f f2 k k2 x n : Nat} {M : MS} (hff : f = f2 + 1) (h : k < M.2.2.2.2.2.1) (hk2 : (rpF M.2.2.2.2.1 M.2.2.2.2.2.1 M.2.2.2.2.2.2.2.2.2.2.2 k).1 = nI k2) (hb : k2 < 2147483648) (hn : mN M.2.1 = n) (hp : mNoPart (rpS M k) n = 0) :
    rnF f k M x = (if true = true then rnF (f - 1) (k2 + 1) (mDoPart (rpS M k) n).1 (x + 1) else ((mDoPart (rpS M k) n).1, x + 1)) := by
  subst hff; subst hn
  rw [if_pos rfl]
  show (if k < _ then (if mNoPart (rpS M k) (mN M.2.1) = 0 then rnF f2 _ _ _ else _) else _) = _
  rw [if_pos h, if_pos hp, hk2, nI_clamp hb]
  rfl
theorem rnF_stop {f f2 k k2 x n : Nat} {M : MS} (hff : f = f2 + 1) (h : k < M.2.2.2.2.2.1) (hn : mN M.2.1 = n) (hp : ¬ mNoPart (rpS M k) n = 0) :
    rnF f k M x = (if false = true then rnF f k2 (rpS M k) x else (rpS M k, x)) := by
  subst hff; subst hn
  rw [if_neg (by decide)]
  show (if k < _ then (if mNoPart (rpS M k) (mN M.2.1) = 0 then _ else _) else _) = _
  rw [if_pos h, if_neg hp]
theorem mDoPart_same (M : MS) (n : Nat) : (mDoPart M n).1.2.2 = M.2.2 ∨ (mDoPart M n).1 = mDoPlan M n := by
  unfold mDoPart
  repeat' split
  all_goals first | exact Or.inr rfl | exact Or.inl rfl
theorem mSh_ln (M : MS) (n : Nat) : (mSh M n).2.2.2.2.1 = M.2.2.2.2.1 ∧ (mSh M n).2.2.2.2.2.1 = M.2.2.2.2.2.1 := by
  unfold mSh
  split <;> exact ⟨rfl, rfl⟩
theorem mDoPart_ln (M : MS) (n : Nat) : (mDoPart M n).1.2.2.2.2.2.1 = M.2.2.2.2.2.1 := by
  rcases mDoPart_same M n with h | h
  · rw [h]
  · rw [h]; exact (mSh_ln M n).2
theorem mDoPart_tx (M : MS) (n : Nat) : (mDoPart M n).1.2.2.2.2.1 = M.2.2.2.2.1 := by
  rcases mDoPart_same M n with h | h
  · rw [h]
  · rw [h]; exact (mSh_ln M n).1
def mRun0 (M : MS) : MS := (0, M.2.1, (recA M.2.1 M.2.2.1 M.2.2.2.1).1, (recA M.2.1 M.2.2.1 M.2.2.2.1).2, M.2.2.2.2.1, M.2.2.2.2.2.1, M.2.2.2.2.2.2.1, M.2.2.2.2.2.2.2.1, M.2.2.2.2.2.2.2.2.1, M.2.2.2.2.2.2.2.2.2.1, (feF M.2.2.2.2.1 M.2.2.2.2.2.1 61 0 M.2.2.2.2.2.2.2.2.2.2.2).2.1, (feF M.2.2.2.2.1 M.2.2.2.2.2.1 61 0 M.2.2.2.2.2.2.2.2.2.2.2).2.2)
def mRun (M : MS) : MS × Int32 := if (feF M.2.2.2.2.1 M.2.2.2.2.2.1 61 0 M.2.2.2.2.2.2.2.2.2.2.2).1 < 0 then ((((rnF 61 0 (mRun0 M) 0).1).1, ((rnF 61 0 (mRun0 M) 0).1).2.1, ((rnF 61 0 (mRun0 M) 0).1).2.2.1, ((rnF 61 0 (mRun0 M) 0).1).2.2.2.1, ((rnF 61 0 (mRun0 M) 0).1).2.2.2.2.1, 0, ((rnF 61 0 (mRun0 M) 0).1).2.2.2.2.2.2.1, ((rnF 61 0 (mRun0 M) 0).1).2.2.2.2.2.2.2.1, ((rnF 61 0 (mRun0 M) 0).1).2.2.2.2.2.2.2.2.1, ((rnF 61 0 (mRun0 M) 0).1).2.2.2.2.2.2.2.2.2.1, ((rnF 61 0 (mRun0 M) 0).1).2.2.2.2.2.2.2.2.2.2.1, ((rnF 61 0 (mRun0 M) 0).1).2.2.2.2.2.2.2.2.2.2.2), nI (rnF 61 0 (mRun0 M) 0).2) else ((1, M.2.1, M.2.2.1, M.2.2.2.1, M.2.2.2.2.1, M.2.2.2.2.2.1, M.2.2.2.2.2.2.1, M.2.2.2.2.2.2.2.1, M.2.2.2.2.2.2.2.2.1, M.2.2.2.2.2.2.2.2.2.1, (feF M.2.2.2.2.1 M.2.2.2.2.2.1 61 0 M.2.2.2.2.2.2.2.2.2.2.2).2.1, (feF M.2.2.2.2.1 M.2.2.2.2.2.1 61 0 M.2.2.2.2.2.2.2.2.2.2.2).2.2), 0)

abbrev rm_X6_noPart : Room := { frames := 3, cells := 0, slots := 0, locals := 64 }
set_option maxHeartbeats 4000000 in
set_option maxRecDepth 100000 in
theorem c_X6_noPart (l : Launch) (G : va_G) (cyI cyO : ClassId) (A : Nat → Nat) (M : MS) (n : Nat) (hM : MI M.2.1 n) : CI l G (TY cyI cyO) yX6_noPart wsX6_noPart rm_X6_noPart [.ref (A 0)] [mdW cyI A M] (mNoPart M n) [mdW cyI A M] := by
  refine wk_I (cc := cX6_noPart) (maxL := 1) (ret := (some .int)) (by decide) rfl (Nat.le_of_ble_eq_true rfl) ?_
  intro p9 e9 s9 m9 b9 t9 c9 A9 ls hx hb hr hts hown hlocks hml hK hA hD hP hl hS hnm
  have hl : lv_has ls 1 [(0, .ref (A 0))] := hl
  have hinX6 : ∀ w ∈ wsX60, w ∈ wsX6_noPart := by decide +kernel
  have hf152 := hts (.fieldLink RX6 152 "DoorstepRoundsModel" "number" "I") (by decide +kernel)
  have hf155 := hts (.fieldLink RX6 155 "DoorstepRoundsModel" "letter" "I") (by decide +kernel)
  have hz : M.2.1 0 = nI n := hM.1
  have hn : n ≤ 20 := hM.2.1
  have hWk := hM.2.2.1
  have hOw := hM.2.2.2
  refine lv_aload_n hx hb dX6_noPart_0 rfl (lv_at hl 0 rfl) ?_
  refine va_get (v := .int (M.2.2.2.2.2.2.2.2.2.2.1)) (C := RX6) (T := TX6) (N := 12) hx hb hts hinX6 hown hK hP 0 rfl rfl 10 (by decide) hf155 (fun _ h9 => h9) rfl dX6_noPart_1 ?_
  by_cases c_4_43 : M.2.2.2.2.2.2.2.2.2.2.1 = (43 : Int32)
  · refine lv_lookup (tgt := 64) (off := 60) hx hb dX6_noPart_4 (by decide) (by rw [c_4_43]; rfl) (by decide) ?_
    refine lv_aload_n hx hb dX6_noPart_64 rfl (lv_at hl 0 rfl) ?_
    refine lv_aload_n hx hb dX6_noPart_65 rfl (lv_at hl 0 rfl) ?_
    refine va_get (v := .int (M.2.2.2.2.2.2.2.2.2.2.2)) (C := RX6) (T := TX6) (N := 12) hx hb hts hinX6 hown hK hP 0 rfl rfl 11 (by decide) hf152 (fun _ h9 => h9) rfl dX6_noPart_66 ?_
    refine gVi (gs := [mdW cyI A M]) (As := [.int (M.2.2.2.2.2.2.2.2.2.2.2)]) (rest := []) ⟨hx, hb, hml, hown, hts⟩ (c_X6_noAdd l G cyI cyO A M n hM M.2.2.2.2.2.2.2.2.2.2.2) (cwV 1 hts gX6_noPart_X6_noAdd rfl rfl rfl (by decide +kernel) ⟨Nat.le_of_ble_eq_true rfl, Nat.le_of_ble_eq_true rfl⟩) hK hP hD hS hA [0] rfl rfl rfl 0 6 rfl rfl rfl hl.1 rfl (Nat.le_of_ble_eq_true rfl) dX6_noPart_69 ⟨Nat.le_refl _, Nat.le_refl _⟩ (fun H locs hP hD hS => ?_)
    have hP : va_P G vwCl (cat [mdW cyI A M]) H := hP
    have hD : va_D A9 (cat [mdW cyI A M]) := hD
    have hP : va_P G vwCl (cat [mdW cyI A M]) H := hP
    have hD : va_D A9 (cat [mdW cyI A M]) := hD
    exact end_i hx hb hr hlocks hK hP hD hS (by simp [mNoPart, c_4_43]) dX6_noPart_72
  by_cases c_4_45 : M.2.2.2.2.2.2.2.2.2.2.1 = (45 : Int32)
  · refine lv_lookup (tgt := 73) (off := 69) hx hb dX6_noPart_4 (by decide) (by rw [c_4_45]; rfl) (by decide) ?_
    refine lv_aload_n hx hb dX6_noPart_73 rfl (lv_at hl 0 rfl) ?_
    refine lv_aload_n hx hb dX6_noPart_74 rfl (lv_at hl 0 rfl) ?_
    refine va_get (v := .int (M.2.2.2.2.2.2.2.2.2.2.2)) (C := RX6) (T := TX6) (N := 12) hx hb hts hinX6 hown hK hP 0 rfl rfl 11 (by decide) hf152 (fun _ h9 => h9) rfl dX6_noPart_75 ?_
    refine gVi (gs := [mdW cyI A M]) (As := [.int (M.2.2.2.2.2.2.2.2.2.2.2)]) (rest := []) ⟨hx, hb, hml, hown, hts⟩ (c_X6_noRemove l G cyI cyO A M n hM M.2.2.2.2.2.2.2.2.2.2.2) (cwV 1 hts gX6_noPart_X6_noRemove rfl rfl rfl (by decide +kernel) ⟨Nat.le_of_ble_eq_true rfl, Nat.le_of_ble_eq_true rfl⟩) hK hP hD hS hA [0] rfl rfl rfl 0 6 rfl rfl rfl hl.1 rfl (Nat.le_of_ble_eq_true rfl) dX6_noPart_78 ⟨Nat.le_refl _, Nat.le_refl _⟩ (fun H locs hP hD hS => ?_)
    have hP : va_P G vwCl (cat [mdW cyI A M]) H := hP
    have hD : va_D A9 (cat [mdW cyI A M]) := hD
    have hP : va_P G vwCl (cat [mdW cyI A M]) H := hP
    have hD : va_D A9 (cat [mdW cyI A M]) := hD
    exact end_i hx hb hr hlocks hK hP hD hS (by simp [mNoPart, c_4_45]) dX6_noPart_81
  by_cases c_4_99 : M.2.2.2.2.2.2.2.2.2.2.1 = (99 : Int32)
  · refine lv_lookup (tgt := 82) (off := 78) hx hb dX6_noPart_4 (by decide) (by rw [c_4_99]; rfl) (by decide) ?_
    refine lv_aload_n hx hb dX6_noPart_82 rfl (lv_at hl 0 rfl) ?_
    refine lv_aload_n hx hb dX6_noPart_83 rfl (lv_at hl 0 rfl) ?_
    refine va_get (v := .int (M.2.2.2.2.2.2.2.2.2.2.2)) (C := RX6) (T := TX6) (N := 12) hx hb hts hinX6 hown hK hP 0 rfl rfl 11 (by decide) hf152 (fun _ h9 => h9) rfl dX6_noPart_84 ?_
    refine gVi (gs := [mdW cyI A M]) (As := [.int (M.2.2.2.2.2.2.2.2.2.2.2)]) (rest := []) ⟨hx, hb, hml, hown, hts⟩ (c_X6_noCome l G cyI cyO A M n hM M.2.2.2.2.2.2.2.2.2.2.2) (cwV 1 hts gX6_noPart_X6_noCome rfl rfl rfl (by decide +kernel) ⟨Nat.le_of_ble_eq_true rfl, Nat.le_of_ble_eq_true rfl⟩) hK hP hD hS hA [0] rfl rfl rfl 0 6 rfl rfl rfl hl.1 rfl (Nat.le_of_ble_eq_true rfl) dX6_noPart_87 ⟨Nat.le_refl _, Nat.le_refl _⟩ (fun H locs hP hD hS => ?_)
    have hP : va_P G vwCl (cat [mdW cyI A M]) H := hP
    have hD : va_D A9 (cat [mdW cyI A M]) := hD
    have hP : va_P G vwCl (cat [mdW cyI A M]) H := hP
    have hD : va_D A9 (cat [mdW cyI A M]) := hD
    exact end_i hx hb hr hlocks hK hP hD hS (by simp [mNoPart, c_4_99]) dX6_noPart_90
  by_cases c_4_100 : M.2.2.2.2.2.2.2.2.2.2.1 = (100 : Int32)
  · refine lv_lookup (tgt := 105) (off := 101) hx hb dX6_noPart_4 (by decide) (by rw [c_4_100]; rfl) (by decide) ?_
    refine lv_iconst (v := (0 : Int32)) hx hb dX6_noPart_105 (by decide) ?_
    have hP : va_P G vwCl (cat [mdW cyI A M]) s9.heap := hP
    have hD : va_D A9 (cat [mdW cyI A M]) := hD
    exact end_i hx hb hr hlocks hK hP hD hS (by simp [mNoPart, c_4_100]) dX6_noPart_106
  by_cases c_4_108 : M.2.2.2.2.2.2.2.2.2.2.1 = (108 : Int32)
  · refine lv_lookup (tgt := 91) (off := 87) hx hb dX6_noPart_4 (by decide) (by rw [c_4_108]; rfl) (by decide) ?_
    refine lv_aload_n hx hb dX6_noPart_91 rfl (lv_at hl 0 rfl) ?_
    refine lv_aload_n hx hb dX6_noPart_92 rfl (lv_at hl 0 rfl) ?_
    refine va_get (v := .int (M.2.2.2.2.2.2.2.2.2.2.2)) (C := RX6) (T := TX6) (N := 12) hx hb hts hinX6 hown hK hP 0 rfl rfl 11 (by decide) hf152 (fun _ h9 => h9) rfl dX6_noPart_93 ?_
    refine gVi (gs := [mdW cyI A M]) (As := [.int (M.2.2.2.2.2.2.2.2.2.2.2)]) (rest := []) ⟨hx, hb, hml, hown, hts⟩ (c_X6_noLeave l G cyI cyO A M n hM M.2.2.2.2.2.2.2.2.2.2.2) (cwV 1 hts gX6_noPart_X6_noLeave rfl rfl rfl (by decide +kernel) ⟨Nat.le_of_ble_eq_true rfl, Nat.le_of_ble_eq_true rfl⟩) hK hP hD hS hA [0] rfl rfl rfl 0 6 rfl rfl rfl hl.1 rfl (Nat.le_of_ble_eq_true rfl) dX6_noPart_96 ⟨Nat.le_refl _, Nat.le_refl _⟩ (fun H locs hP hD hS => ?_)
    have hP : va_P G vwCl (cat [mdW cyI A M]) H := hP
    have hD : va_D A9 (cat [mdW cyI A M]) := hD
    have hP : va_P G vwCl (cat [mdW cyI A M]) H := hP
    have hD : va_D A9 (cat [mdW cyI A M]) := hD
    exact end_i hx hb hr hlocks hK hP hD hS (by simp [mNoPart, c_4_108]) dX6_noPart_99
  by_cases c_4_112 : M.2.2.2.2.2.2.2.2.2.2.1 = (112 : Int32)
  · refine lv_lookup (tgt := 100) (off := 96) hx hb dX6_noPart_4 (by decide) (by rw [c_4_112]; rfl) (by decide) ?_
    refine lv_aload_n hx hb dX6_noPart_100 rfl (lv_at hl 0 rfl) ?_
    refine gVi (gs := [mdW cyI A M]) (As := []) (rest := []) ⟨hx, hb, hml, hown, hts⟩ (c_X6_noPlan l G cyI cyO A M n hM) (cwV 0 hts gX6_noPart_X6_noPlan rfl rfl rfl (by decide +kernel) ⟨Nat.le_of_ble_eq_true rfl, Nat.le_of_ble_eq_true rfl⟩) hK hP hD hS hA [0] rfl rfl rfl 0 6 rfl rfl rfl hl.1 rfl (Nat.le_of_ble_eq_true rfl) dX6_noPart_101 ⟨Nat.le_refl _, Nat.le_refl _⟩ (fun H locs hP hD hS => ?_)
    have hP : va_P G vwCl (cat [mdW cyI A M]) H := hP
    have hD : va_D A9 (cat [mdW cyI A M]) := hD
    have hP : va_P G vwCl (cat [mdW cyI A M]) H := hP
    have hD : va_D A9 (cat [mdW cyI A M]) := hD
    exact end_i hx hb hr hlocks hK hP hD hS (by simp [mNoPart, c_4_112]) dX6_noPart_104
  refine lv_lookup (tgt := 107) (off := 103) hx hb dX6_noPart_4 (by decide) (by show Op.lookupswitch.offset [(43, 60), (45, 69), (99, 78), (100, 101), (108, 87), (112, 96)] 103 _ = 103; rw [lo_ne (n := 43) c_4_43 (by decide), lo_ne (n := 45) c_4_45 (by decide), lo_ne (n := 99) c_4_99 (by decide), lo_ne (n := 100) c_4_100 (by decide), lo_ne (n := 108) c_4_108 (by decide), lo_ne (n := 112) c_4_112 (by decide)]; rfl) (by decide) ?_
  refine lv_aload_n hx hb dX6_noPart_107 rfl (lv_at hl 0 rfl) ?_
  refine gVi (gs := [mdW cyI A M]) (As := []) (rest := []) ⟨hx, hb, hml, hown, hts⟩ (c_X6_noHandover l G cyI cyO A M n hM) (cwV 0 hts gX6_noPart_X6_noHandover rfl rfl rfl (by decide +kernel) ⟨Nat.le_of_ble_eq_true rfl, Nat.le_of_ble_eq_true rfl⟩) hK hP hD hS hA [0] rfl rfl rfl 0 6 rfl rfl rfl hl.1 rfl (Nat.le_of_ble_eq_true rfl) dX6_noPart_108 ⟨Nat.le_refl _, Nat.le_refl _⟩ (fun H locs hP hD hS => ?_)
  have hP : va_P G vwCl (cat [mdW cyI A M]) H := hP
  have hD : va_D A9 (cat [mdW cyI A M]) := hD
  have hP : va_P G vwCl (cat [mdW cyI A M]) H := hP
  have hD : va_D A9 (cat [mdW cyI A M]) := hD
  exact end_i hx hb hr hlocks hK hP hD hS (by simp [mNoPart, c_4_43, c_4_45, c_4_99, c_4_100, c_4_108, c_4_112]) dX6_noPart_111
abbrev rm_X6_doPart : Room := { frames := 5, cells := 0, slots := 0, locals := 114 }
set_option maxHeartbeats 4000000 in
set_option maxRecDepth 100000 in
theorem c_X6_doPart (l : Launch) (G : va_G) (cyI cyO : ClassId) (A : Nat → Nat) (M : MS) (n : Nat) (hM : MI M.2.1 n) (hnp : mNoPart M n = 0) : CI l G (TY cyI cyO) yX6_doPart wsX6_doPart rm_X6_doPart [.ref (A 0)] [mdW cyI A M] ((mDoPart M n).2) [mdW cyI A ((mDoPart M n).1)] := by
  refine wk_I (cc := cX6_doPart) (maxL := 1) (ret := (some .int)) (by decide) rfl (Nat.le_of_ble_eq_true rfl) ?_
  intro p9 e9 s9 m9 b9 t9 c9 A9 ls hx hb hr hts hown hlocks hml hK hA hD hP hl hS hnm
  have hl : lv_has ls 1 [(0, .ref (A 0))] := hl
  have hinX6 : ∀ w ∈ wsX60, w ∈ wsX6_doPart := by decide +kernel
  have hf152 := hts (.fieldLink RX6 152 "DoorstepRoundsModel" "number" "I") (by decide +kernel)
  have hf155 := hts (.fieldLink RX6 155 "DoorstepRoundsModel" "letter" "I") (by decide +kernel)
  have hz : M.2.1 0 = nI n := hM.1
  have hn : n ≤ 20 := hM.2.1
  have hWk := hM.2.2.1
  have hOw := hM.2.2.2
  refine lv_aload_n hx hb dX6_doPart_0 rfl (lv_at hl 0 rfl) ?_
  refine va_get (v := .int (M.2.2.2.2.2.2.2.2.2.2.1)) (C := RX6) (T := TX6) (N := 12) hx hb hts hinX6 hown hK hP 0 rfl rfl 10 (by decide) hf155 (fun _ h9 => h9) rfl dX6_doPart_1 ?_
  by_cases c_4_43 : M.2.2.2.2.2.2.2.2.2.2.1 = (43 : Int32)
  · refine lv_lookup (tgt := 72) (off := 68) hx hb dX6_doPart_4 (by decide) (by rw [c_4_43]; rfl) (by decide) ?_
    have hq : mNoAdd M.2.1 n M.2.2.2.2.2.2.2.2.2.2.2 = 0 := by have h9 := hnp; unfold mNoPart at h9; rw [if_pos c_4_43] at h9; exact h9
    have hq2 := (mNoAdd_0 hq).2.1
    refine lv_aload_n hx hb dX6_doPart_72 rfl (lv_at hl 0 rfl) ?_
    refine lv_aload_n hx hb dX6_doPart_73 rfl (lv_at hl 0 rfl) ?_
    refine va_get (v := .int (M.2.2.2.2.2.2.2.2.2.2.2)) (C := RX6) (T := TX6) (N := 12) hx hb hts hinX6 hown hK hP 0 rfl rfl 11 (by decide) hf152 (fun _ h9 => h9) rfl dX6_doPart_74 ?_
    refine gVi (gs := [mdW cyI A M]) (As := [.int (M.2.2.2.2.2.2.2.2.2.2.2)]) (rest := []) ⟨hx, hb, hml, hown, hts⟩ (c_X6_doAdd l G cyI cyO A M n hM M.2.2.2.2.2.2.2.2.2.2.2 (by omega)) (cwV 1 hts gX6_doPart_X6_doAdd rfl rfl rfl (by decide +kernel) ⟨Nat.le_of_ble_eq_true rfl, Nat.le_of_ble_eq_true rfl⟩) hK hP hD hS hA [0] rfl rfl rfl 0 6 rfl rfl rfl hl.1 rfl (Nat.le_of_ble_eq_true rfl) dX6_doPart_77 ⟨Nat.le_refl _, Nat.le_refl _⟩ (fun H locs hP hD hS => ?_)
    have hP : va_P G vwCl (cat [mdW cyI A ((M.1, upd (upd (upd M.2.1 (1 + n) M.2.2.2.2.2.2.2.2.2.2.2) (21 + n) (-1)) 0 (nI (n + 1)), M.2.2.1, M.2.2.2.1, M.2.2.2.2.1, M.2.2.2.2.2.1, M.2.2.2.2.2.2.1, M.2.2.2.2.2.2.2.1, M.2.2.2.2.2.2.2.2.1, M.2.2.2.2.2.2.2.2.2.1, M.2.2.2.2.2.2.2.2.2.2.1, M.2.2.2.2.2.2.2.2.2.2.2))]) H := hP
    have hD : va_D A9 (cat [mdW cyI A ((M.1, upd (upd (upd M.2.1 (1 + n) M.2.2.2.2.2.2.2.2.2.2.2) (21 + n) (-1)) 0 (nI (n + 1)), M.2.2.1, M.2.2.2.1, M.2.2.2.2.1, M.2.2.2.2.2.1, M.2.2.2.2.2.2.1, M.2.2.2.2.2.2.2.1, M.2.2.2.2.2.2.2.2.1, M.2.2.2.2.2.2.2.2.2.1, M.2.2.2.2.2.2.2.2.2.2.1, M.2.2.2.2.2.2.2.2.2.2.2))]) := hD
    have hgo : cat [mdW cyI A ((M.1, upd (upd (upd M.2.1 (1 + n) M.2.2.2.2.2.2.2.2.2.2.2) (21 + n) (-1)) 0 (nI (n + 1)), M.2.2.1, M.2.2.2.1, M.2.2.2.2.1, M.2.2.2.2.2.1, M.2.2.2.2.2.2.1, M.2.2.2.2.2.2.2.1, M.2.2.2.2.2.2.2.2.1, M.2.2.2.2.2.2.2.2.2.1, M.2.2.2.2.2.2.2.2.2.2.1, M.2.2.2.2.2.2.2.2.2.2.2))] = cat [mdW cyI A ((mDoPart M n).1)] := by rw [mDoPart, if_pos c_4_43]; (try rw [hkx]); (try rw [← hx9]); (try rfl); done
    rw [hgo] at hP hD
    have hP : va_P G vwCl (cat [mdW cyI A ((mDoPart M n).1)]) H := hP
    have hD : va_D A9 (cat [mdW cyI A ((mDoPart M n).1)]) := hD
    exact end_i hx hb hr hlocks hK hP hD hS (by rw [mDoPart, if_pos c_4_43]; (try rw [hkx]); (try rw [← hx9]); (try rfl); done) dX6_doPart_80
  by_cases c_4_45 : M.2.2.2.2.2.2.2.2.2.2.1 = (45 : Int32)
  · refine lv_lookup (tgt := 81) (off := 77) hx hb dX6_doPart_4 (by decide) (by rw [c_4_45]; rfl) (by decide) ?_
    have hq : mNoRem M.2.1 n M.2.2.2.2.2.2.2.2.2.2.2 = 0 := by have h9 := hnp; unfold mNoPart at h9; rw [if_neg c_4_43, if_pos c_4_45] at h9; exact h9
    obtain ⟨k, hk, hx9⟩ := mHas_nat hn (mNoRem_0 hq).1
    have hkx : (M.2.2.2.2.2.2.2.2.2.2.2).toNatClampNeg = k := by rw [hx9]; exact nI_clamp (by omega)
    refine lv_aload_n hx hb dX6_doPart_81 rfl (lv_at hl 0 rfl) ?_
    refine lv_aload_n hx hb dX6_doPart_82 rfl (lv_at hl 0 rfl) ?_
    refine va_get (v := .int (M.2.2.2.2.2.2.2.2.2.2.2)) (C := RX6) (T := TX6) (N := 12) hx hb hts hinX6 hown hK hP 0 rfl rfl 11 (by decide) hf152 (fun _ h9 => h9) rfl dX6_doPart_83 ?_
    refine top_i (x' := nI (k)) (hx9) ?_
    refine gVi (gs := [mdW cyI A M]) (As := [.int (nI (k))]) (rest := []) ⟨hx, hb, hml, hown, hts⟩ (c_X6_doRemove l G cyI cyO A M n hM k (by omega)) (cwV 1 hts gX6_doPart_X6_doRemove rfl rfl rfl (by decide +kernel) ⟨Nat.le_of_ble_eq_true rfl, Nat.le_of_ble_eq_true rfl⟩) hK hP hD hS hA [0] rfl rfl rfl 0 6 rfl rfl rfl hl.1 rfl (Nat.le_of_ble_eq_true rfl) dX6_doPart_86 ⟨Nat.le_refl _, Nat.le_refl _⟩ (fun H locs hP hD hS => ?_)
    have hP : va_P G vwCl (cat [mdW cyI A ((M.1, rmAll M.2.1 n k, M.2.2.1, M.2.2.2.1, M.2.2.2.2.1, M.2.2.2.2.2.1, M.2.2.2.2.2.2.1, M.2.2.2.2.2.2.2.1, M.2.2.2.2.2.2.2.2.1, M.2.2.2.2.2.2.2.2.2.1, M.2.2.2.2.2.2.2.2.2.2.1, M.2.2.2.2.2.2.2.2.2.2.2))]) H := hP
    have hD : va_D A9 (cat [mdW cyI A ((M.1, rmAll M.2.1 n k, M.2.2.1, M.2.2.2.1, M.2.2.2.2.1, M.2.2.2.2.2.1, M.2.2.2.2.2.2.1, M.2.2.2.2.2.2.2.1, M.2.2.2.2.2.2.2.2.1, M.2.2.2.2.2.2.2.2.2.1, M.2.2.2.2.2.2.2.2.2.2.1, M.2.2.2.2.2.2.2.2.2.2.2))]) := hD
    have hgo : cat [mdW cyI A ((M.1, rmAll M.2.1 n k, M.2.2.1, M.2.2.2.1, M.2.2.2.2.1, M.2.2.2.2.2.1, M.2.2.2.2.2.2.1, M.2.2.2.2.2.2.2.1, M.2.2.2.2.2.2.2.2.1, M.2.2.2.2.2.2.2.2.2.1, M.2.2.2.2.2.2.2.2.2.2.1, M.2.2.2.2.2.2.2.2.2.2.2))] = cat [mdW cyI A ((mDoPart M n).1)] := by rw [mDoPart, if_neg c_4_43, if_pos c_4_45]; (try rw [hkx]); (try rw [← hx9]); (try rfl); done
    rw [hgo] at hP hD
    have hP : va_P G vwCl (cat [mdW cyI A ((mDoPart M n).1)]) H := hP
    have hD : va_D A9 (cat [mdW cyI A ((mDoPart M n).1)]) := hD
    exact end_i hx hb hr hlocks hK hP hD hS (by rw [mDoPart, if_neg c_4_43, if_pos c_4_45]; (try rw [hkx]); (try rw [← hx9]); (try rfl); done) dX6_doPart_89
  by_cases c_4_99 : M.2.2.2.2.2.2.2.2.2.2.1 = (99 : Int32)
  · refine lv_lookup (tgt := 90) (off := 86) hx hb dX6_doPart_4 (by decide) (by rw [c_4_99]; rfl) (by decide) ?_
    have hq : mNoCome M.2.1 M.2.2.2.2.2.2.2.2.2.2.2 = 0 := by have h9 := hnp; unfold mNoPart at h9; rw [if_neg c_4_43, if_neg c_4_45, if_pos c_4_99] at h9; exact h9
    obtain ⟨k, hk, hx9⟩ := dig_nat (mNoCome_0 hq).1
    have hkx : (M.2.2.2.2.2.2.2.2.2.2.2).toNatClampNeg = k := by rw [hx9]; exact nI_clamp (by omega)
    refine lv_aload_n hx hb dX6_doPart_90 rfl (lv_at hl 0 rfl) ?_
    refine lv_aload_n hx hb dX6_doPart_91 rfl (lv_at hl 0 rfl) ?_
    refine va_get (v := .int (M.2.2.2.2.2.2.2.2.2.2.2)) (C := RX6) (T := TX6) (N := 12) hx hb hts hinX6 hown hK hP 0 rfl rfl 11 (by decide) hf152 (fun _ h9 => h9) rfl dX6_doPart_92 ?_
    refine top_i (x' := nI (k)) (hx9) ?_
    refine gVi (gs := [mdW cyI A M]) (As := [.int (nI (k))]) (rest := []) ⟨hx, hb, hml, hown, hts⟩ (c_X6_doCome l G cyI cyO A M n hM k (by omega)) (cwV 1 hts gX6_doPart_X6_doCome rfl rfl rfl (by decide +kernel) ⟨Nat.le_of_ble_eq_true rfl, Nat.le_of_ble_eq_true rfl⟩) hK hP hD hS hA [0] rfl rfl rfl 0 6 rfl rfl rfl hl.1 rfl (Nat.le_of_ble_eq_true rfl) dX6_doPart_95 ⟨Nat.le_refl _, Nat.le_refl _⟩ (fun H locs hP hD hS => ?_)
    have hP : va_P G vwCl (cat [mdW cyI A ((M.1, upd M.2.1 (81 + k) 1, M.2.2.1, M.2.2.2.1, M.2.2.2.2.1, M.2.2.2.2.2.1, M.2.2.2.2.2.2.1, M.2.2.2.2.2.2.2.1, M.2.2.2.2.2.2.2.2.1, M.2.2.2.2.2.2.2.2.2.1, M.2.2.2.2.2.2.2.2.2.2.1, M.2.2.2.2.2.2.2.2.2.2.2))]) H := hP
    have hD : va_D A9 (cat [mdW cyI A ((M.1, upd M.2.1 (81 + k) 1, M.2.2.1, M.2.2.2.1, M.2.2.2.2.1, M.2.2.2.2.2.1, M.2.2.2.2.2.2.1, M.2.2.2.2.2.2.2.1, M.2.2.2.2.2.2.2.2.1, M.2.2.2.2.2.2.2.2.2.1, M.2.2.2.2.2.2.2.2.2.2.1, M.2.2.2.2.2.2.2.2.2.2.2))]) := hD
    have hgo : cat [mdW cyI A ((M.1, upd M.2.1 (81 + k) 1, M.2.2.1, M.2.2.2.1, M.2.2.2.2.1, M.2.2.2.2.2.1, M.2.2.2.2.2.2.1, M.2.2.2.2.2.2.2.1, M.2.2.2.2.2.2.2.2.1, M.2.2.2.2.2.2.2.2.2.1, M.2.2.2.2.2.2.2.2.2.2.1, M.2.2.2.2.2.2.2.2.2.2.2))] = cat [mdW cyI A ((mDoPart M n).1)] := by rw [mDoPart, if_neg c_4_43, if_neg c_4_45, if_pos c_4_99]; (try rw [hkx]); (try rw [← hx9]); (try rfl); done
    rw [hgo] at hP hD
    have hP : va_P G vwCl (cat [mdW cyI A ((mDoPart M n).1)]) H := hP
    have hD : va_D A9 (cat [mdW cyI A ((mDoPart M n).1)]) := hD
    exact end_i hx hb hr hlocks hK hP hD hS (by rw [mDoPart, if_neg c_4_43, if_neg c_4_45, if_pos c_4_99]; (try rw [hkx]); (try rw [← hx9]); (try rfl); done) dX6_doPart_98
  by_cases c_4_104 : M.2.2.2.2.2.2.2.2.2.2.1 = (104 : Int32)
  · refine lv_lookup (tgt := 113) (off := 109) hx hb dX6_doPart_4 (by decide) (by rw [c_4_104]; rfl) (by decide) ?_
    refine lv_aload_n hx hb dX6_doPart_113 rfl (lv_at hl 0 rfl) ?_
    refine gVi (gs := [mdW cyI A M]) (As := []) (rest := []) ⟨hx, hb, hml, hown, hts⟩ (c_X6_doHandOver l G cyI cyO A M n hM) (cwV 0 hts gX6_doPart_X6_doHandOver rfl rfl rfl (by decide +kernel) ⟨Nat.le_of_ble_eq_true rfl, Nat.le_of_ble_eq_true rfl⟩) hK hP hD hS hA [0] rfl rfl rfl 0 6 rfl rfl rfl hl.1 rfl (Nat.le_of_ble_eq_true rfl) dX6_doPart_114 ⟨Nat.le_refl _, Nat.le_refl _⟩ (fun H locs hP hD hS => ?_)
    have hP : va_P G vwCl (cat [mdW cyI A ((M.1, hoZ M.2.1 n, M.2.2.1, M.2.2.2.1, M.2.2.2.2.1, M.2.2.2.2.2.1, M.2.2.2.2.2.2.1, M.2.2.2.2.2.2.2.1, M.2.2.2.2.2.2.2.2.1, M.2.2.2.2.2.2.2.2.2.1, M.2.2.2.2.2.2.2.2.2.2.1, M.2.2.2.2.2.2.2.2.2.2.2))]) H := hP
    have hD : va_D A9 (cat [mdW cyI A ((M.1, hoZ M.2.1 n, M.2.2.1, M.2.2.2.1, M.2.2.2.2.1, M.2.2.2.2.2.1, M.2.2.2.2.2.2.1, M.2.2.2.2.2.2.2.1, M.2.2.2.2.2.2.2.2.1, M.2.2.2.2.2.2.2.2.2.1, M.2.2.2.2.2.2.2.2.2.2.1, M.2.2.2.2.2.2.2.2.2.2.2))]) := hD
    have hgo : cat [mdW cyI A ((M.1, hoZ M.2.1 n, M.2.2.1, M.2.2.2.1, M.2.2.2.2.1, M.2.2.2.2.2.1, M.2.2.2.2.2.2.1, M.2.2.2.2.2.2.2.1, M.2.2.2.2.2.2.2.2.1, M.2.2.2.2.2.2.2.2.2.1, M.2.2.2.2.2.2.2.2.2.2.1, M.2.2.2.2.2.2.2.2.2.2.2))] = cat [mdW cyI A ((mDoPart M n).1)] := by rw [mDoPart, if_neg c_4_43, if_neg c_4_45, if_neg c_4_99, if_pos c_4_104]; (try rw [hkx]); (try rw [← hx9]); (try rfl); done
    rw [hgo] at hP hD
    have hP : va_P G vwCl (cat [mdW cyI A ((mDoPart M n).1)]) H := hP
    have hD : va_D A9 (cat [mdW cyI A ((mDoPart M n).1)]) := hD
    exact end_i hx hb hr hlocks hK hP hD hS (by rw [mDoPart, if_neg c_4_43, if_neg c_4_45, if_neg c_4_99, if_pos c_4_104]; (try rw [hkx]); (try rw [← hx9]); (try rfl); done) dX6_doPart_117
  by_cases c_4_108 : M.2.2.2.2.2.2.2.2.2.2.1 = (108 : Int32)
  · refine lv_lookup (tgt := 99) (off := 95) hx hb dX6_doPart_4 (by decide) (by rw [c_4_108]; rfl) (by decide) ?_
    have hq : mNoLeave M.2.1 M.2.2.2.2.2.2.2.2.2.2.2 = 0 := by have h9 := hnp; unfold mNoPart at h9; rw [if_neg c_4_43, if_neg c_4_45, if_neg c_4_99, if_neg (fun h => absurd (c_4_108.symm.trans h) (by decide)), if_pos c_4_108] at h9; exact h9
    obtain ⟨k, hk, hx9⟩ := dig_nat (mNoLeave_0 hq).1
    have hkx : (M.2.2.2.2.2.2.2.2.2.2.2).toNatClampNeg = k := by rw [hx9]; exact nI_clamp (by omega)
    refine lv_aload_n hx hb dX6_doPart_99 rfl (lv_at hl 0 rfl) ?_
    refine lv_aload_n hx hb dX6_doPart_100 rfl (lv_at hl 0 rfl) ?_
    refine va_get (v := .int (M.2.2.2.2.2.2.2.2.2.2.2)) (C := RX6) (T := TX6) (N := 12) hx hb hts hinX6 hown hK hP 0 rfl rfl 11 (by decide) hf152 (fun _ h9 => h9) rfl dX6_doPart_101 ?_
    refine top_i (x' := nI (k)) (hx9) ?_
    refine gVi (gs := [mdW cyI A M]) (As := [.int (nI (k))]) (rest := []) ⟨hx, hb, hml, hown, hts⟩ (c_X6_doLeave l G cyI cyO A M n hM k (by omega)) (cwV 1 hts gX6_doPart_X6_doLeave rfl rfl rfl (by decide +kernel) ⟨Nat.le_of_ble_eq_true rfl, Nat.le_of_ble_eq_true rfl⟩) hK hP hD hS hA [0] rfl rfl rfl 0 6 rfl rfl rfl hl.1 rfl (Nat.le_of_ble_eq_true rfl) dX6_doPart_104 ⟨Nat.le_refl _, Nat.le_refl _⟩ (fun H locs hP hD hS => ?_)
    have hP : va_P G vwCl (cat [mdW cyI A ((M.1, dlAll n (nI k) (upd M.2.1 (81 + k) 0), M.2.2.1, M.2.2.2.1, M.2.2.2.2.1, M.2.2.2.2.2.1, M.2.2.2.2.2.2.1, M.2.2.2.2.2.2.2.1, M.2.2.2.2.2.2.2.2.1, M.2.2.2.2.2.2.2.2.2.1, M.2.2.2.2.2.2.2.2.2.2.1, M.2.2.2.2.2.2.2.2.2.2.2))]) H := hP
    have hD : va_D A9 (cat [mdW cyI A ((M.1, dlAll n (nI k) (upd M.2.1 (81 + k) 0), M.2.2.1, M.2.2.2.1, M.2.2.2.2.1, M.2.2.2.2.2.1, M.2.2.2.2.2.2.1, M.2.2.2.2.2.2.2.1, M.2.2.2.2.2.2.2.2.1, M.2.2.2.2.2.2.2.2.2.1, M.2.2.2.2.2.2.2.2.2.2.1, M.2.2.2.2.2.2.2.2.2.2.2))]) := hD
    have hgo : cat [mdW cyI A ((M.1, dlAll n (nI k) (upd M.2.1 (81 + k) 0), M.2.2.1, M.2.2.2.1, M.2.2.2.2.1, M.2.2.2.2.2.1, M.2.2.2.2.2.2.1, M.2.2.2.2.2.2.2.1, M.2.2.2.2.2.2.2.2.1, M.2.2.2.2.2.2.2.2.2.1, M.2.2.2.2.2.2.2.2.2.2.1, M.2.2.2.2.2.2.2.2.2.2.2))] = cat [mdW cyI A ((mDoPart M n).1)] := by rw [mDoPart, if_neg c_4_43, if_neg c_4_45, if_neg c_4_99, if_neg c_4_104, if_pos c_4_108]; (try rw [hkx]); (try rw [← hx9]); (try rfl); done
    rw [hgo] at hP hD
    have hP : va_P G vwCl (cat [mdW cyI A ((mDoPart M n).1)]) H := hP
    have hD : va_D A9 (cat [mdW cyI A ((mDoPart M n).1)]) := hD
    exact end_i hx hb hr hlocks hK hP hD hS (by rw [mDoPart, if_neg c_4_43, if_neg c_4_45, if_neg c_4_99, if_neg c_4_104, if_pos c_4_108]; (try rw [hkx]); (try rw [← hx9]); (try rfl); done) dX6_doPart_107
  by_cases c_4_112 : M.2.2.2.2.2.2.2.2.2.2.1 = (112 : Int32)
  · refine lv_lookup (tgt := 108) (off := 104) hx hb dX6_doPart_4 (by decide) (by rw [c_4_112]; rfl) (by decide) ?_
    refine lv_aload_n hx hb dX6_doPart_108 rfl (lv_at hl 0 rfl) ?_
    refine gVi (gs := [mdW cyI A M]) (As := []) (rest := []) ⟨hx, hb, hml, hown, hts⟩ (c_X6_doPlan l G cyI cyO A M n hM) (cwV 0 hts gX6_doPart_X6_doPlan rfl rfl rfl (by decide +kernel) ⟨Nat.le_of_ble_eq_true rfl, Nat.le_of_ble_eq_true rfl⟩) hK hP hD hS hA [0] rfl rfl rfl 0 6 rfl rfl rfl hl.1 rfl (Nat.le_of_ble_eq_true rfl) dX6_doPart_109 ⟨Nat.le_refl _, Nat.le_refl _⟩ (fun H locs hP hD hS => ?_)
    have hP : va_P G vwCl (cat [mdW cyI A (mDoPlan M n)]) H := hP
    have hD : va_D A9 (cat [mdW cyI A (mDoPlan M n)]) := hD
    have hgo : cat [mdW cyI A (mDoPlan M n)] = cat [mdW cyI A ((mDoPart M n).1)] := by rw [mDoPart, if_neg c_4_43, if_neg c_4_45, if_neg c_4_99, if_neg c_4_104, if_neg c_4_108, if_pos c_4_112]; (try rw [hkx]); (try rw [← hx9]); (try rfl); done
    rw [hgo] at hP hD
    have hP : va_P G vwCl (cat [mdW cyI A ((mDoPart M n).1)]) H := hP
    have hD : va_D A9 (cat [mdW cyI A ((mDoPart M n).1)]) := hD
    exact end_i hx hb hr hlocks hK hP hD hS (by rw [mDoPart, if_neg c_4_43, if_neg c_4_45, if_neg c_4_99, if_neg c_4_104, if_neg c_4_108, if_pos c_4_112]; (try rw [hkx]); (try rw [← hx9]); (try rfl); done) dX6_doPart_112
  by_cases c_4_120 : M.2.2.2.2.2.2.2.2.2.2.1 = (120 : Int32)
  · refine lv_lookup (tgt := 118) (off := 114) hx hb dX6_doPart_4 (by decide) (by rw [c_4_120]; rfl) (by decide) ?_
    refine lv_aload_n hx hb dX6_doPart_118 rfl (lv_at hl 0 rfl) ?_
    refine gVi (gs := [mdW cyI A M]) (As := []) (rest := []) ⟨hx, hb, hml, hown, hts⟩ (c_X6_doCallOff l G cyI cyO A M n hM) (cwV 0 hts gX6_doPart_X6_doCallOff rfl rfl rfl (by decide +kernel) ⟨Nat.le_of_ble_eq_true rfl, Nat.le_of_ble_eq_true rfl⟩) hK hP hD hS hA [0] rfl rfl rfl 0 6 rfl rfl rfl hl.1 rfl (Nat.le_of_ble_eq_true rfl) dX6_doPart_119 ⟨Nat.le_refl _, Nat.le_refl _⟩ (fun H locs hP hD hS => ?_)
    have hP : va_P G vwCl (cat [mdW cyI A ((M.1, upd (coAll M.2.1 n).1 87 0, M.2.2.1, M.2.2.2.1, M.2.2.2.2.1, M.2.2.2.2.2.1, M.2.2.2.2.2.2.1, M.2.2.2.2.2.2.2.1, M.2.2.2.2.2.2.2.2.1, M.2.2.2.2.2.2.2.2.2.1, M.2.2.2.2.2.2.2.2.2.2.1, M.2.2.2.2.2.2.2.2.2.2.2))]) H := hP
    have hD : va_D A9 (cat [mdW cyI A ((M.1, upd (coAll M.2.1 n).1 87 0, M.2.2.1, M.2.2.2.1, M.2.2.2.2.1, M.2.2.2.2.2.1, M.2.2.2.2.2.2.1, M.2.2.2.2.2.2.2.1, M.2.2.2.2.2.2.2.2.1, M.2.2.2.2.2.2.2.2.2.1, M.2.2.2.2.2.2.2.2.2.2.1, M.2.2.2.2.2.2.2.2.2.2.2))]) := hD
    have hgo : cat [mdW cyI A ((M.1, upd (coAll M.2.1 n).1 87 0, M.2.2.1, M.2.2.2.1, M.2.2.2.2.1, M.2.2.2.2.2.1, M.2.2.2.2.2.2.1, M.2.2.2.2.2.2.2.1, M.2.2.2.2.2.2.2.2.1, M.2.2.2.2.2.2.2.2.2.1, M.2.2.2.2.2.2.2.2.2.2.1, M.2.2.2.2.2.2.2.2.2.2.2))] = cat [mdW cyI A ((mDoPart M n).1)] := by rw [mDoPart, if_neg c_4_43, if_neg c_4_45, if_neg c_4_99, if_neg c_4_104, if_neg c_4_108, if_neg c_4_112, if_pos c_4_120]; (try rw [hkx]); (try rw [← hx9]); (try rfl); done
    rw [hgo] at hP hD
    have hP : va_P G vwCl (cat [mdW cyI A ((mDoPart M n).1)]) H := hP
    have hD : va_D A9 (cat [mdW cyI A ((mDoPart M n).1)]) := hD
    exact end_i hx hb hr hlocks hK hP hD hS (by rw [mDoPart, if_neg c_4_43, if_neg c_4_45, if_neg c_4_99, if_neg c_4_104, if_neg c_4_108, if_neg c_4_112, if_pos c_4_120]; (try rw [hkx]); (try rw [← hx9]); (try rfl); done) dX6_doPart_122
  refine lv_lookup (tgt := 123) (off := 119) hx hb dX6_doPart_4 (by decide) (by show Op.lookupswitch.offset [(43, 68), (45, 77), (99, 86), (104, 109), (108, 95), (112, 104), (120, 114)] 119 _ = 119; rw [lo_ne (n := 43) c_4_43 (by decide), lo_ne (n := 45) c_4_45 (by decide), lo_ne (n := 99) c_4_99 (by decide), lo_ne (n := 104) c_4_104 (by decide), lo_ne (n := 108) c_4_108 (by decide), lo_ne (n := 112) c_4_112 (by decide), lo_ne (n := 120) c_4_120 (by decide)]; rfl) (by decide) ?_
  refine lv_aload_n hx hb dX6_doPart_123 rfl (lv_at hl 0 rfl) ?_
  refine gVi (gs := [mdW cyI A M]) (As := []) (rest := []) ⟨hx, hb, hml, hown, hts⟩ (c_X6_doDeliver l G cyI cyO A M n hM) (cwV 0 hts gX6_doPart_X6_doDeliver rfl rfl rfl (by decide +kernel) ⟨Nat.le_of_ble_eq_true rfl, Nat.le_of_ble_eq_true rfl⟩) hK hP hD hS hA [0] rfl rfl rfl 0 6 rfl rfl rfl hl.1 rfl (Nat.le_of_ble_eq_true rfl) dX6_doPart_124 ⟨Nat.le_refl _, Nat.le_refl _⟩ (fun H locs hP hD hS => ?_)
  have hP : va_P G vwCl (cat [mdW cyI A ((M.1, upd (dvAll M.2.1 n).1 89 ((dvAll M.2.1 n).1 89 + (dvAll M.2.1 n).2), M.2.2.1, M.2.2.2.1, M.2.2.2.2.1, M.2.2.2.2.2.1, M.2.2.2.2.2.2.1, M.2.2.2.2.2.2.2.1, M.2.2.2.2.2.2.2.2.1, M.2.2.2.2.2.2.2.2.2.1, M.2.2.2.2.2.2.2.2.2.2.1, M.2.2.2.2.2.2.2.2.2.2.2))]) H := hP
  have hD : va_D A9 (cat [mdW cyI A ((M.1, upd (dvAll M.2.1 n).1 89 ((dvAll M.2.1 n).1 89 + (dvAll M.2.1 n).2), M.2.2.1, M.2.2.2.1, M.2.2.2.2.1, M.2.2.2.2.2.1, M.2.2.2.2.2.2.1, M.2.2.2.2.2.2.2.1, M.2.2.2.2.2.2.2.2.1, M.2.2.2.2.2.2.2.2.2.1, M.2.2.2.2.2.2.2.2.2.2.1, M.2.2.2.2.2.2.2.2.2.2.2))]) := hD
  have hgo : cat [mdW cyI A ((M.1, upd (dvAll M.2.1 n).1 89 ((dvAll M.2.1 n).1 89 + (dvAll M.2.1 n).2), M.2.2.1, M.2.2.2.1, M.2.2.2.2.1, M.2.2.2.2.2.1, M.2.2.2.2.2.2.1, M.2.2.2.2.2.2.2.1, M.2.2.2.2.2.2.2.2.1, M.2.2.2.2.2.2.2.2.2.1, M.2.2.2.2.2.2.2.2.2.2.1, M.2.2.2.2.2.2.2.2.2.2.2))] = cat [mdW cyI A ((mDoPart M n).1)] := by rw [mDoPart, if_neg c_4_43, if_neg c_4_45, if_neg c_4_99, if_neg c_4_104, if_neg c_4_108, if_neg c_4_112, if_neg c_4_120]; (try rw [hkx]); (try rw [← hx9]); (try rfl); done
  rw [hgo] at hP hD
  have hP : va_P G vwCl (cat [mdW cyI A ((mDoPart M n).1)]) H := hP
  have hD : va_D A9 (cat [mdW cyI A ((mDoPart M n).1)]) := hD
  exact end_i hx hb hr hlocks hK hP hD hS (by rw [mDoPart, if_neg c_4_43, if_neg c_4_45, if_neg c_4_99, if_neg c_4_104, if_neg c_4_108, if_neg c_4_112, if_neg c_4_120]; (try rw [hkx]); (try rw [← hx9]); (try rfl); done) dX6_doPart_127
abbrev rm_X6_run : Room := { frames := 6, cells := 0, slots := 0, locals := 134 }
set_option maxHeartbeats 4000000 in
set_option maxRecDepth 100000 in
theorem c_X6_run (l : Launch) (G : va_G) (cyI cyO : ClassId) (A : Nat → Nat) (M : MS) (n : Nat) (hM : MI M.2.1 n) (hs : M.2.2.2.1 ≤ 6) (hln : M.2.2.2.2.2.1 ≤ 60) (hJ : MJ M.2.1 n) : CI l G (TY cyI cyO) yX6_run wsX6_run rm_X6_run [.ref (A 0)] [mdW cyI A M] ((mRun M).2) [mdW cyI A ((mRun M).1)] := by
  refine wk_I (cc := cX6_run) (maxL := 4) (ret := (some .int)) (by decide) rfl (Nat.le_of_ble_eq_true rfl) ?_
  intro p9 e9 s9 m9 b9 t9 c9 A9 ls hx hb hr hts hown hlocks hml hK hA hD hP hl hS hnm
  have hl : lv_has ls 4 [(0, .ref (A 0))] := hl
  have hinX6 : ∀ w ∈ wsX60, w ∈ wsX6_run := by decide +kernel
  have hf146 := hts (.fieldLink RX6 146 "DoorstepRoundsModel" "length" "I") (by decide +kernel)
  have hf31 := hts (.fieldLink RX6 31 "DoorstepRoundsModel" "thrown" "I") (by decide +kernel)
  have hz : M.2.1 0 = nI n := hM.1
  have hn : n ≤ 20 := hM.2.1
  have hWk := hM.2.2.1
  have hOw := hM.2.2.2
  have hP : va_P G vwCl (cat [[(A 0, .inr (6, [.int (M.1), .ref (A 1), .ref (A 2), .int (nI (M.2.2.2.1)), .ref (A 3), .int (nI (M.2.2.2.2.2.1)), .ref (A 4), .ref (A 5), .ref (A 6), .ref (A 7), .int (M.2.2.2.2.2.2.2.2.2.2.1), .int (M.2.2.2.2.2.2.2.2.2.2.2)]))], [(A 1, .inl (cyI, 91, .inl (M.2.1)))], [(A 2, .inl (cyI, 546, .inl (M.2.2.1)))], [(A 3, .inl (cyI, 60, .inl (M.2.2.2.2.1)))], [(A 4, .inl (cyI, 20, .inl (M.2.2.2.2.2.2.1)))], [(A 5, .inl (cyI, 6, .inl (M.2.2.2.2.2.2.2.1)))], [(A 6, .inl (cyI, 6, .inl (M.2.2.2.2.2.2.2.2.1)))], [(A 7, .inl (cyI, 6, .inl (M.2.2.2.2.2.2.2.2.2.1)))]]) s9.heap := hP
  have hD : va_D A9 (cat [[(A 0, .inr (6, [.int (M.1), .ref (A 1), .ref (A 2), .int (nI (M.2.2.2.1)), .ref (A 3), .int (nI (M.2.2.2.2.2.1)), .ref (A 4), .ref (A 5), .ref (A 6), .ref (A 7), .int (M.2.2.2.2.2.2.2.2.2.2.1), .int (M.2.2.2.2.2.2.2.2.2.2.2)]))], [(A 1, .inl (cyI, 91, .inl (M.2.1)))], [(A 2, .inl (cyI, 546, .inl (M.2.2.1)))], [(A 3, .inl (cyI, 60, .inl (M.2.2.2.2.1)))], [(A 4, .inl (cyI, 20, .inl (M.2.2.2.2.2.2.1)))], [(A 5, .inl (cyI, 6, .inl (M.2.2.2.2.2.2.2.1)))], [(A 6, .inl (cyI, 6, .inl (M.2.2.2.2.2.2.2.2.1)))], [(A 7, .inl (cyI, 6, .inl (M.2.2.2.2.2.2.2.2.2.1)))]]) := hD
  refine lv_aload_n hx hb dX6_run_0 rfl (lv_at hl 0 rfl) ?_
  refine lv_aload_n hx hb dX6_run_1 rfl (lv_at hl 0 rfl) ?_
  have hP : va_P G vwCl (cat [mdW cyI A ((M.1, M.2.1, M.2.2.1, M.2.2.2.1, M.2.2.2.2.1, M.2.2.2.2.2.1, M.2.2.2.2.2.2.1, M.2.2.2.2.2.2.2.1, M.2.2.2.2.2.2.2.2.1, M.2.2.2.2.2.2.2.2.2.1, M.2.2.2.2.2.2.2.2.2.2.1, M.2.2.2.2.2.2.2.2.2.2.2))]) s9.heap := hP
  have hD : va_D A9 (cat [mdW cyI A ((M.1, M.2.1, M.2.2.1, M.2.2.2.1, M.2.2.2.2.1, M.2.2.2.2.2.1, M.2.2.2.2.2.2.1, M.2.2.2.2.2.2.2.1, M.2.2.2.2.2.2.2.2.1, M.2.2.2.2.2.2.2.2.2.1, M.2.2.2.2.2.2.2.2.2.2.1, M.2.2.2.2.2.2.2.2.2.2.2))]) := hD
  refine gVi (gs := [mdW cyI A ((M.1, M.2.1, M.2.2.1, M.2.2.2.1, M.2.2.2.2.1, M.2.2.2.2.2.1, M.2.2.2.2.2.2.1, M.2.2.2.2.2.2.2.1, M.2.2.2.2.2.2.2.2.1, M.2.2.2.2.2.2.2.2.2.1, M.2.2.2.2.2.2.2.2.2.2.1, M.2.2.2.2.2.2.2.2.2.2.2))]) (As := []) (rest := [.ref (A 0)]) ⟨hx, hb, hml, hown, hts⟩ (c_X6_findError l G cyI cyO A ((M.1, M.2.1, M.2.2.1, M.2.2.2.1, M.2.2.2.2.1, M.2.2.2.2.2.1, M.2.2.2.2.2.2.1, M.2.2.2.2.2.2.2.1, M.2.2.2.2.2.2.2.2.1, M.2.2.2.2.2.2.2.2.2.1, M.2.2.2.2.2.2.2.2.2.2.1, M.2.2.2.2.2.2.2.2.2.2.2)) hln) (cwV 0 hts gX6_run_X6_findError rfl rfl rfl (by decide +kernel) ⟨Nat.le_of_ble_eq_true rfl, Nat.le_of_ble_eq_true rfl⟩) hK hP hD hS hA [0] rfl rfl rfl 0 6 rfl rfl rfl hl.1 rfl (Nat.le_of_ble_eq_true rfl) dX6_run_2 ⟨Nat.le_refl _, Nat.le_refl _⟩ (fun H locs hP hD hS => ?_)
  have hP : va_P G vwCl (cat [mdW cyI A ((M.1, M.2.1, M.2.2.1, M.2.2.2.1, M.2.2.2.2.1, M.2.2.2.2.2.1, M.2.2.2.2.2.2.1, M.2.2.2.2.2.2.2.1, M.2.2.2.2.2.2.2.2.1, M.2.2.2.2.2.2.2.2.2.1, (feF M.2.2.2.2.1 M.2.2.2.2.2.1 61 0 M.2.2.2.2.2.2.2.2.2.2.2).2.1, (feF M.2.2.2.2.1 M.2.2.2.2.2.1 61 0 M.2.2.2.2.2.2.2.2.2.2.2).2.2))]) H := hP
  have hD : va_D A9 (cat [mdW cyI A ((M.1, M.2.1, M.2.2.1, M.2.2.2.1, M.2.2.2.2.1, M.2.2.2.2.2.1, M.2.2.2.2.2.2.1, M.2.2.2.2.2.2.2.1, M.2.2.2.2.2.2.2.2.1, M.2.2.2.2.2.2.2.2.2.1, (feF M.2.2.2.2.1 M.2.2.2.2.2.1 61 0 M.2.2.2.2.2.2.2.2.2.2.2).2.1, (feF M.2.2.2.2.1 M.2.2.2.2.2.1 61 0 M.2.2.2.2.2.2.2.2.2.2.2).2.2))]) := hD
  refine lv_if_ge (tgt := 12) hx hb dX6_run_5 (by decide) (fun c_5 => ?_) (fun c_5 => ?_)
  · refine lv_iconst (v := (1 : Int32)) hx hb dX6_run_12 (by decide) ?_
    have hP : va_P G vwCl (cat [[(A 0, .inr (6, [.int (M.1), .ref (A 1), .ref (A 2), .int (nI (M.2.2.2.1)), .ref (A 3), .int (nI (M.2.2.2.2.2.1)), .ref (A 4), .ref (A 5), .ref (A 6), .ref (A 7), .int ((feF M.2.2.2.2.1 M.2.2.2.2.2.1 61 0 M.2.2.2.2.2.2.2.2.2.2.2).2.1), .int ((feF M.2.2.2.2.1 M.2.2.2.2.2.1 61 0 M.2.2.2.2.2.2.2.2.2.2.2).2.2)]))], [(A 1, .inl (cyI, 91, .inl (M.2.1)))], [(A 2, .inl (cyI, 546, .inl (M.2.2.1)))], [(A 3, .inl (cyI, 60, .inl (M.2.2.2.2.1)))], [(A 4, .inl (cyI, 20, .inl (M.2.2.2.2.2.2.1)))], [(A 5, .inl (cyI, 6, .inl (M.2.2.2.2.2.2.2.1)))], [(A 6, .inl (cyI, 6, .inl (M.2.2.2.2.2.2.2.2.1)))], [(A 7, .inl (cyI, 6, .inl (M.2.2.2.2.2.2.2.2.2.1)))]]) H := hP
    have hD : va_D A9 (cat [[(A 0, .inr (6, [.int (M.1), .ref (A 1), .ref (A 2), .int (nI (M.2.2.2.1)), .ref (A 3), .int (nI (M.2.2.2.2.2.1)), .ref (A 4), .ref (A 5), .ref (A 6), .ref (A 7), .int ((feF M.2.2.2.2.1 M.2.2.2.2.2.1 61 0 M.2.2.2.2.2.2.2.2.2.2.2).2.1), .int ((feF M.2.2.2.2.1 M.2.2.2.2.2.1 61 0 M.2.2.2.2.2.2.2.2.2.2.2).2.2)]))], [(A 1, .inl (cyI, 91, .inl (M.2.1)))], [(A 2, .inl (cyI, 546, .inl (M.2.2.1)))], [(A 3, .inl (cyI, 60, .inl (M.2.2.2.2.1)))], [(A 4, .inl (cyI, 20, .inl (M.2.2.2.2.2.2.1)))], [(A 5, .inl (cyI, 6, .inl (M.2.2.2.2.2.2.2.1)))], [(A 6, .inl (cyI, 6, .inl (M.2.2.2.2.2.2.2.2.1)))], [(A 7, .inl (cyI, 6, .inl (M.2.2.2.2.2.2.2.2.2.1)))]]) := hD
    refine va_put (v := .int ((1 : Int32))) (ty := .int) (C := RX6) (T := TX6) (N := 12) hx hb hts hinX6 tyX6 tyX6_ok nmX6 hown hK hP hD hS 0 rfl rfl 0 (by decide) hf31 (fun _ h9 => h9) rfl (by first | rfl | decide +kernel) rfl rfl (Nat.le_of_ble_eq_true rfl) dX6_run_13 (fun H locs hP hD hS => ?_)
    have hP : va_P G vwCl (cat [[(A 0, .inr (6, [.int ((1 : Int32)), .ref (A 1), .ref (A 2), .int (nI (M.2.2.2.1)), .ref (A 3), .int (nI (M.2.2.2.2.2.1)), .ref (A 4), .ref (A 5), .ref (A 6), .ref (A 7), .int ((feF M.2.2.2.2.1 M.2.2.2.2.2.1 61 0 M.2.2.2.2.2.2.2.2.2.2.2).2.1), .int ((feF M.2.2.2.2.1 M.2.2.2.2.2.1 61 0 M.2.2.2.2.2.2.2.2.2.2.2).2.2)]))], [(A 1, .inl (cyI, 91, .inl (M.2.1)))], [(A 2, .inl (cyI, 546, .inl (M.2.2.1)))], [(A 3, .inl (cyI, 60, .inl (M.2.2.2.2.1)))], [(A 4, .inl (cyI, 20, .inl (M.2.2.2.2.2.2.1)))], [(A 5, .inl (cyI, 6, .inl (M.2.2.2.2.2.2.2.1)))], [(A 6, .inl (cyI, 6, .inl (M.2.2.2.2.2.2.2.2.1)))], [(A 7, .inl (cyI, 6, .inl (M.2.2.2.2.2.2.2.2.2.1)))]]) H := hP
    have hD : va_D A9 (cat [[(A 0, .inr (6, [.int ((1 : Int32)), .ref (A 1), .ref (A 2), .int (nI (M.2.2.2.1)), .ref (A 3), .int (nI (M.2.2.2.2.2.1)), .ref (A 4), .ref (A 5), .ref (A 6), .ref (A 7), .int ((feF M.2.2.2.2.1 M.2.2.2.2.2.1 61 0 M.2.2.2.2.2.2.2.2.2.2.2).2.1), .int ((feF M.2.2.2.2.1 M.2.2.2.2.2.1 61 0 M.2.2.2.2.2.2.2.2.2.2.2).2.2)]))], [(A 1, .inl (cyI, 91, .inl (M.2.1)))], [(A 2, .inl (cyI, 546, .inl (M.2.2.1)))], [(A 3, .inl (cyI, 60, .inl (M.2.2.2.2.1)))], [(A 4, .inl (cyI, 20, .inl (M.2.2.2.2.2.2.1)))], [(A 5, .inl (cyI, 6, .inl (M.2.2.2.2.2.2.2.1)))], [(A 6, .inl (cyI, 6, .inl (M.2.2.2.2.2.2.2.2.1)))], [(A 7, .inl (cyI, 6, .inl (M.2.2.2.2.2.2.2.2.2.1)))]]) := hD
    refine lv_aload_n hx hb dX6_run_16 rfl (lv_at hl 0 rfl) ?_
    refine va_get (v := .int ((1 : Int32))) (C := RX6) (T := TX6) (N := 12) hx hb hts hinX6 hown hK hP 0 rfl rfl 0 (by decide) hf31 (fun _ h9 => h9) rfl dX6_run_17 ?_
    refine lv_if_le (tgt := 25) hx hb dX6_run_20 (by decide) (fun c_20 => ?_) (fun c_20 => ?_)
    · exact absurd c_20 (by decide)
    · refine lv_iconst (v := (0 : Int32)) hx hb dX6_run_23 (by decide) ?_
      have hgo : cat [[(A 0, .inr (6, [.int ((1 : Int32)), .ref (A 1), .ref (A 2), .int (nI (M.2.2.2.1)), .ref (A 3), .int (nI (M.2.2.2.2.2.1)), .ref (A 4), .ref (A 5), .ref (A 6), .ref (A 7), .int ((feF M.2.2.2.2.1 M.2.2.2.2.2.1 61 0 M.2.2.2.2.2.2.2.2.2.2.2).2.1), .int ((feF M.2.2.2.2.1 M.2.2.2.2.2.1 61 0 M.2.2.2.2.2.2.2.2.2.2.2).2.2)]))], [(A 1, .inl (cyI, 91, .inl (M.2.1)))], [(A 2, .inl (cyI, 546, .inl (M.2.2.1)))], [(A 3, .inl (cyI, 60, .inl (M.2.2.2.2.1)))], [(A 4, .inl (cyI, 20, .inl (M.2.2.2.2.2.2.1)))], [(A 5, .inl (cyI, 6, .inl (M.2.2.2.2.2.2.2.1)))], [(A 6, .inl (cyI, 6, .inl (M.2.2.2.2.2.2.2.2.1)))], [(A 7, .inl (cyI, 6, .inl (M.2.2.2.2.2.2.2.2.2.1)))]] = cat [mdW cyI A ((mRun M).1)] := by rw [mRun, if_neg (i32_nlt c_5)]; rfl
      rw [hgo] at hP hD
      have hP : va_P G vwCl (cat [mdW cyI A ((mRun M).1)]) H := hP
      have hD : va_D A9 (cat [mdW cyI A ((mRun M).1)]) := hD
      exact end_i hx hb hr hlocks hK hP hD hS (by rw [mRun, if_neg (i32_nlt c_5)]) dX6_run_24
  · refine lv_iconst (v := (0 : Int32)) hx hb dX6_run_8 (by decide) ?_
    refine lv_goto (tgt := 13) hx hb dX6_run_9 (by decide) ?_
    have hP : va_P G vwCl (cat [[(A 0, .inr (6, [.int (M.1), .ref (A 1), .ref (A 2), .int (nI (M.2.2.2.1)), .ref (A 3), .int (nI (M.2.2.2.2.2.1)), .ref (A 4), .ref (A 5), .ref (A 6), .ref (A 7), .int ((feF M.2.2.2.2.1 M.2.2.2.2.2.1 61 0 M.2.2.2.2.2.2.2.2.2.2.2).2.1), .int ((feF M.2.2.2.2.1 M.2.2.2.2.2.1 61 0 M.2.2.2.2.2.2.2.2.2.2.2).2.2)]))], [(A 1, .inl (cyI, 91, .inl (M.2.1)))], [(A 2, .inl (cyI, 546, .inl (M.2.2.1)))], [(A 3, .inl (cyI, 60, .inl (M.2.2.2.2.1)))], [(A 4, .inl (cyI, 20, .inl (M.2.2.2.2.2.2.1)))], [(A 5, .inl (cyI, 6, .inl (M.2.2.2.2.2.2.2.1)))], [(A 6, .inl (cyI, 6, .inl (M.2.2.2.2.2.2.2.2.1)))], [(A 7, .inl (cyI, 6, .inl (M.2.2.2.2.2.2.2.2.2.1)))]]) H := hP
    have hD : va_D A9 (cat [[(A 0, .inr (6, [.int (M.1), .ref (A 1), .ref (A 2), .int (nI (M.2.2.2.1)), .ref (A 3), .int (nI (M.2.2.2.2.2.1)), .ref (A 4), .ref (A 5), .ref (A 6), .ref (A 7), .int ((feF M.2.2.2.2.1 M.2.2.2.2.2.1 61 0 M.2.2.2.2.2.2.2.2.2.2.2).2.1), .int ((feF M.2.2.2.2.1 M.2.2.2.2.2.1 61 0 M.2.2.2.2.2.2.2.2.2.2.2).2.2)]))], [(A 1, .inl (cyI, 91, .inl (M.2.1)))], [(A 2, .inl (cyI, 546, .inl (M.2.2.1)))], [(A 3, .inl (cyI, 60, .inl (M.2.2.2.2.1)))], [(A 4, .inl (cyI, 20, .inl (M.2.2.2.2.2.2.1)))], [(A 5, .inl (cyI, 6, .inl (M.2.2.2.2.2.2.2.1)))], [(A 6, .inl (cyI, 6, .inl (M.2.2.2.2.2.2.2.2.1)))], [(A 7, .inl (cyI, 6, .inl (M.2.2.2.2.2.2.2.2.2.1)))]]) := hD
    refine va_put (v := .int ((0 : Int32))) (ty := .int) (C := RX6) (T := TX6) (N := 12) hx hb hts hinX6 tyX6 tyX6_ok nmX6 hown hK hP hD hS 0 rfl rfl 0 (by decide) hf31 (fun _ h9 => h9) rfl (by first | rfl | decide +kernel) rfl rfl (Nat.le_of_ble_eq_true rfl) dX6_run_13 (fun H locs hP hD hS => ?_)
    have hP : va_P G vwCl (cat [[(A 0, .inr (6, [.int ((0 : Int32)), .ref (A 1), .ref (A 2), .int (nI (M.2.2.2.1)), .ref (A 3), .int (nI (M.2.2.2.2.2.1)), .ref (A 4), .ref (A 5), .ref (A 6), .ref (A 7), .int ((feF M.2.2.2.2.1 M.2.2.2.2.2.1 61 0 M.2.2.2.2.2.2.2.2.2.2.2).2.1), .int ((feF M.2.2.2.2.1 M.2.2.2.2.2.1 61 0 M.2.2.2.2.2.2.2.2.2.2.2).2.2)]))], [(A 1, .inl (cyI, 91, .inl (M.2.1)))], [(A 2, .inl (cyI, 546, .inl (M.2.2.1)))], [(A 3, .inl (cyI, 60, .inl (M.2.2.2.2.1)))], [(A 4, .inl (cyI, 20, .inl (M.2.2.2.2.2.2.1)))], [(A 5, .inl (cyI, 6, .inl (M.2.2.2.2.2.2.2.1)))], [(A 6, .inl (cyI, 6, .inl (M.2.2.2.2.2.2.2.2.1)))], [(A 7, .inl (cyI, 6, .inl (M.2.2.2.2.2.2.2.2.2.1)))]]) H := hP
    have hD : va_D A9 (cat [[(A 0, .inr (6, [.int ((0 : Int32)), .ref (A 1), .ref (A 2), .int (nI (M.2.2.2.1)), .ref (A 3), .int (nI (M.2.2.2.2.2.1)), .ref (A 4), .ref (A 5), .ref (A 6), .ref (A 7), .int ((feF M.2.2.2.2.1 M.2.2.2.2.2.1 61 0 M.2.2.2.2.2.2.2.2.2.2.2).2.1), .int ((feF M.2.2.2.2.1 M.2.2.2.2.2.1 61 0 M.2.2.2.2.2.2.2.2.2.2.2).2.2)]))], [(A 1, .inl (cyI, 91, .inl (M.2.1)))], [(A 2, .inl (cyI, 546, .inl (M.2.2.1)))], [(A 3, .inl (cyI, 60, .inl (M.2.2.2.2.1)))], [(A 4, .inl (cyI, 20, .inl (M.2.2.2.2.2.2.1)))], [(A 5, .inl (cyI, 6, .inl (M.2.2.2.2.2.2.2.1)))], [(A 6, .inl (cyI, 6, .inl (M.2.2.2.2.2.2.2.2.1)))], [(A 7, .inl (cyI, 6, .inl (M.2.2.2.2.2.2.2.2.2.1)))]]) := hD
    refine lv_aload_n hx hb dX6_run_16 rfl (lv_at hl 0 rfl) ?_
    refine va_get (v := .int ((0 : Int32))) (C := RX6) (T := TX6) (N := 12) hx hb hts hinX6 hown hK hP 0 rfl rfl 0 (by decide) hf31 (fun _ h9 => h9) rfl dX6_run_17 ?_
    refine lv_if_le (tgt := 25) hx hb dX6_run_20 (by decide) (fun c_20 => ?_) (fun c_20 => ?_)
    · refine lv_aload_n hx hb dX6_run_25 rfl (lv_at hl 0 rfl) ?_
      have hP : va_P G vwCl (cat [mdW cyI A (((0 : Int32), M.2.1, M.2.2.1, M.2.2.2.1, M.2.2.2.2.1, M.2.2.2.2.2.1, M.2.2.2.2.2.2.1, M.2.2.2.2.2.2.2.1, M.2.2.2.2.2.2.2.2.1, M.2.2.2.2.2.2.2.2.2.1, (feF M.2.2.2.2.1 M.2.2.2.2.2.1 61 0 M.2.2.2.2.2.2.2.2.2.2.2).2.1, (feF M.2.2.2.2.1 M.2.2.2.2.2.1 61 0 M.2.2.2.2.2.2.2.2.2.2.2).2.2))]) H := hP
      have hD : va_D A9 (cat [mdW cyI A (((0 : Int32), M.2.1, M.2.2.1, M.2.2.2.1, M.2.2.2.2.1, M.2.2.2.2.2.1, M.2.2.2.2.2.2.1, M.2.2.2.2.2.2.2.1, M.2.2.2.2.2.2.2.2.1, M.2.2.2.2.2.2.2.2.2.1, (feF M.2.2.2.2.1 M.2.2.2.2.2.1 61 0 M.2.2.2.2.2.2.2.2.2.2.2).2.1, (feF M.2.2.2.2.1 M.2.2.2.2.2.1 61 0 M.2.2.2.2.2.2.2.2.2.2.2).2.2))]) := hD
      refine gVv (gs := [mdW cyI A (((0 : Int32), M.2.1, M.2.2.1, M.2.2.2.1, M.2.2.2.2.1, M.2.2.2.2.2.1, M.2.2.2.2.2.2.1, M.2.2.2.2.2.2.2.1, M.2.2.2.2.2.2.2.2.1, M.2.2.2.2.2.2.2.2.2.1, (feF M.2.2.2.2.1 M.2.2.2.2.2.1 61 0 M.2.2.2.2.2.2.2.2.2.2.2).2.1, (feF M.2.2.2.2.1 M.2.2.2.2.2.1 61 0 M.2.2.2.2.2.2.2.2.2.2.2).2.2))]) (As := []) (rest := []) ⟨hx, hb, hml, hown, hts⟩ (c_X6_record l G cyI cyO A (((0 : Int32), M.2.1, M.2.2.1, M.2.2.2.1, M.2.2.2.2.1, M.2.2.2.2.2.1, M.2.2.2.2.2.2.1, M.2.2.2.2.2.2.2.1, M.2.2.2.2.2.2.2.2.1, M.2.2.2.2.2.2.2.2.2.1, (feF M.2.2.2.2.1 M.2.2.2.2.2.1 61 0 M.2.2.2.2.2.2.2.2.2.2.2).2.1, (feF M.2.2.2.2.1 M.2.2.2.2.2.1 61 0 M.2.2.2.2.2.2.2.2.2.2.2).2.2)) hs) (cwV 0 hts gX6_run_X6_record rfl rfl rfl (by decide +kernel) ⟨Nat.le_of_ble_eq_true rfl, Nat.le_of_ble_eq_true rfl⟩) hK hP hD hS hA [0] rfl rfl rfl 0 6 rfl rfl rfl hl.1 rfl (Nat.le_of_ble_eq_true rfl) dX6_run_26 ⟨Nat.le_refl _, Nat.le_refl _⟩ (fun H locs hP hD hS => ?_)
      have hP : va_P G vwCl (cat [mdW cyI A ((((0 : Int32)), M.2.1, (recA M.2.1 M.2.2.1 M.2.2.2.1).1, (recA M.2.1 M.2.2.1 M.2.2.2.1).2, M.2.2.2.2.1, M.2.2.2.2.2.1, M.2.2.2.2.2.2.1, M.2.2.2.2.2.2.2.1, M.2.2.2.2.2.2.2.2.1, M.2.2.2.2.2.2.2.2.2.1, ((feF M.2.2.2.2.1 M.2.2.2.2.2.1 61 0 M.2.2.2.2.2.2.2.2.2.2.2).2.1), ((feF M.2.2.2.2.1 M.2.2.2.2.2.1 61 0 M.2.2.2.2.2.2.2.2.2.2.2).2.2)))]) H := hP
      have hD : va_D A9 (cat [mdW cyI A ((((0 : Int32)), M.2.1, (recA M.2.1 M.2.2.1 M.2.2.2.1).1, (recA M.2.1 M.2.2.1 M.2.2.2.1).2, M.2.2.2.2.1, M.2.2.2.2.2.1, M.2.2.2.2.2.2.1, M.2.2.2.2.2.2.2.1, M.2.2.2.2.2.2.2.2.1, M.2.2.2.2.2.2.2.2.2.1, ((feF M.2.2.2.2.1 M.2.2.2.2.2.1 61 0 M.2.2.2.2.2.2.2.2.2.2.2).2.1), ((feF M.2.2.2.2.1 M.2.2.2.2.2.1 61 0 M.2.2.2.2.2.2.2.2.2.2.2).2.2)))]) := hD
      refine lv_iconst (v := (0 : Int32)) hx hb dX6_run_29 (by decide) ?_
      refine lv_istore_n (lv' := [(1, .int ((0 : Int32))), (0, .ref (A 0))]) hx hb dX6_run_30 rfl hl (by decide) rfl (fun ls hl => ?_)
      refine lv_iconst (v := (0 : Int32)) hx hb dX6_run_31 (by decide) ?_
      refine lv_istore_n (lv' := [(2, .int ((0 : Int32))), (1, .int ((0 : Int32))), (0, .ref (A 0))]) hx hb dX6_run_32 rfl hl (by decide) rfl (fun ls hl => ?_)
      refine lv_iconst (v := (1 : Int32)) hx hb dX6_run_33 (by decide) ?_
      refine lv_istore_n (lv' := [(3, .int ((1 : Int32))), (2, .int ((0 : Int32))), (1, .int ((0 : Int32))), (0, .ref (A 0))]) hx hb dX6_run_34 rfl hl (by decide) rfl (fun ls hl => ?_)
      refine W_loop (α := Nat × Nat × MS × Nat × Bool × Nat) (I := fun a9 H locs ls => (MJ a9.2.2.1.2.1 a9.2.2.2.2.2) ∧ (a9.2.2.1.2.2.2.2.2.1 ≤ 60) ∧ (a9.2.1 ≤ 61) ∧ (a9.2.2.2.2.1 = true → a9.2.2.1.2.2.2.2.2.1 < a9.1 + a9.2.1) ∧ (a9.2.2.2.2.1 = true → a9.2.1 < a9.2.2.1.2.2.2.2.2.1 → CF a9.2.2.1.2.2.2.2.1 a9.2.2.1.2.2.2.2.2.1 a9.2.1) ∧ ((if a9.2.2.2.2.1 = true then rnF a9.1 a9.2.1 a9.2.2.1 a9.2.2.2.1 else (a9.2.2.1, a9.2.2.2.1)) = rnF 61 0 (mRun0 M) 0) ∧ va_P G vwCl (cat [mdW cyI A a9.2.2.1]) H ∧ va_D A9 (cat [mdW cyI A a9.2.2.1]) ∧ va_S A9 s9.heap H locs ∧ lv_has ls 4 [(3, .int (bI (a9.2.2.2.2.1))), (2, .int (nI (a9.2.1))), (1, .int (nI (a9.2.2.2.1))), (0, .ref (A 0))]) (μ := fun a9 => if a9.2.2.2.2.1 = true then a9.1 + 1 else 0) (st := fun a9 => []) ?_ (61, 0, mRun0 M, 0, true, n) _ _ _ ⟨(show MJ (mRun0 M).2.1 n from hJ), (show (mRun0 M).2.2.2.2.2.1 ≤ 60 from hln), (show 0 ≤ 61 from by omega), (show true = true → (mRun0 M).2.2.2.2.2.1 < 61 + 0 from fun _ => by show M.2.2.2.2.2.1 < 61 + 0; omega), (show true = true → 0 < (mRun0 M).2.2.2.2.2.1 → CF (mRun0 M).2.2.2.2.1 (mRun0 M).2.2.2.2.2.1 0 from fun _ _ => ⟨61, M.2.2.2.2.2.2.2.2.2.2.2, i32_lt c_5⟩), (show (if true = true then rnF 61 0 (mRun0 M) 0 else ((mRun0 M), 0)) = rnF 61 0 (mRun0 M) 0 from rfl), hP, hD, hS, lv_sub hl [0, 1, 2, 3] rfl⟩
      intro a9 ih_35 H locs ls hI
      obtain ⟨f, k, M1, x, gb, n1⟩ := a9
      obtain ⟨hJ19, hL19, hk9, hf9, hCF9, he9, hP9, hD9, hS9, hl9⟩ := hI
      have hJ1 : MJ M1.2.1 n1 := hJ19
      have hL1 : M1.2.2.2.2.2.1 ≤ 60 := hL19
      have hk : k ≤ 61 := hk9
      have hf : gb = true → M1.2.2.2.2.2.1 < f + k := hf9
      have hCF : gb = true → k < M1.2.2.2.2.2.1 → CF M1.2.2.2.2.1 M1.2.2.2.2.2.1 k := hCF9
      have he : (if gb = true then rnF f k M1 x else (M1, x)) = rnF 61 0 (mRun0 M) 0 := he9
      have hP : va_P G vwCl (cat [mdW cyI A M1]) H := hP9
      have hD : va_D A9 (cat [mdW cyI A M1]) := hD9
      have hS := hS9
      have hl : lv_has ls 4 [(3, .int (bI (gb))), (2, .int (nI (k))), (1, .int (nI (x))), (0, .ref (A 0))] := hl9
      clear hJ19 hL19 hk9 hf9 hCF9 he9 hP9 hD9 hS9 hl9
      refine lv_iload_n hx hb dX6_run_35 rfl (lv_at hl 0 rfl) ?_
      refine lv_if_eq (tgt := 83) hx hb dX6_run_36 (by decide) (fun c_36 => ?_) (fun c_36 => ?_)
      · have c_36 : (gb) = false := bI_z.mp c_36
        subst c_36
        have hfin : (M1, x) = rnF 61 0 (mRun0 M) 0 := he
        refine lv_aload_n hx hb dX6_run_83 rfl (lv_at hl 3 rfl) ?_
        refine lv_iconst (v := (0 : Int32)) hx hb dX6_run_84 (by decide) ?_
        have hP : va_P G vwCl (cat [[(A 0, .inr (6, [.int (M1.1), .ref (A 1), .ref (A 2), .int (nI (M1.2.2.2.1)), .ref (A 3), .int (nI (M1.2.2.2.2.2.1)), .ref (A 4), .ref (A 5), .ref (A 6), .ref (A 7), .int (M1.2.2.2.2.2.2.2.2.2.2.1), .int (M1.2.2.2.2.2.2.2.2.2.2.2)]))], [(A 1, .inl (cyI, 91, .inl (M1.2.1)))], [(A 2, .inl (cyI, 546, .inl (M1.2.2.1)))], [(A 3, .inl (cyI, 60, .inl (M1.2.2.2.2.1)))], [(A 4, .inl (cyI, 20, .inl (M1.2.2.2.2.2.2.1)))], [(A 5, .inl (cyI, 6, .inl (M1.2.2.2.2.2.2.2.1)))], [(A 6, .inl (cyI, 6, .inl (M1.2.2.2.2.2.2.2.2.1)))], [(A 7, .inl (cyI, 6, .inl (M1.2.2.2.2.2.2.2.2.2.1)))]]) H := hP
        have hD : va_D A9 (cat [[(A 0, .inr (6, [.int (M1.1), .ref (A 1), .ref (A 2), .int (nI (M1.2.2.2.1)), .ref (A 3), .int (nI (M1.2.2.2.2.2.1)), .ref (A 4), .ref (A 5), .ref (A 6), .ref (A 7), .int (M1.2.2.2.2.2.2.2.2.2.2.1), .int (M1.2.2.2.2.2.2.2.2.2.2.2)]))], [(A 1, .inl (cyI, 91, .inl (M1.2.1)))], [(A 2, .inl (cyI, 546, .inl (M1.2.2.1)))], [(A 3, .inl (cyI, 60, .inl (M1.2.2.2.2.1)))], [(A 4, .inl (cyI, 20, .inl (M1.2.2.2.2.2.2.1)))], [(A 5, .inl (cyI, 6, .inl (M1.2.2.2.2.2.2.2.1)))], [(A 6, .inl (cyI, 6, .inl (M1.2.2.2.2.2.2.2.2.1)))], [(A 7, .inl (cyI, 6, .inl (M1.2.2.2.2.2.2.2.2.2.1)))]]) := hD
        refine va_put (v := .int ((0 : Int32))) (ty := .int) (C := RX6) (T := TX6) (N := 12) hx hb hts hinX6 tyX6 tyX6_ok nmX6 hown hK hP hD hS 0 rfl rfl 5 (by decide) hf146 (fun _ h9 => h9) rfl (by first | rfl | decide +kernel) rfl rfl (Nat.le_of_ble_eq_true rfl) dX6_run_85 (fun H locs hP hD hS => ?_)
        have hP : va_P G vwCl (cat [[(A 0, .inr (6, [.int (M1.1), .ref (A 1), .ref (A 2), .int (nI (M1.2.2.2.1)), .ref (A 3), .int ((0 : Int32)), .ref (A 4), .ref (A 5), .ref (A 6), .ref (A 7), .int (M1.2.2.2.2.2.2.2.2.2.2.1), .int (M1.2.2.2.2.2.2.2.2.2.2.2)]))], [(A 1, .inl (cyI, 91, .inl (M1.2.1)))], [(A 2, .inl (cyI, 546, .inl (M1.2.2.1)))], [(A 3, .inl (cyI, 60, .inl (M1.2.2.2.2.1)))], [(A 4, .inl (cyI, 20, .inl (M1.2.2.2.2.2.2.1)))], [(A 5, .inl (cyI, 6, .inl (M1.2.2.2.2.2.2.2.1)))], [(A 6, .inl (cyI, 6, .inl (M1.2.2.2.2.2.2.2.2.1)))], [(A 7, .inl (cyI, 6, .inl (M1.2.2.2.2.2.2.2.2.2.1)))]]) H := hP
        have hD : va_D A9 (cat [[(A 0, .inr (6, [.int (M1.1), .ref (A 1), .ref (A 2), .int (nI (M1.2.2.2.1)), .ref (A 3), .int ((0 : Int32)), .ref (A 4), .ref (A 5), .ref (A 6), .ref (A 7), .int (M1.2.2.2.2.2.2.2.2.2.2.1), .int (M1.2.2.2.2.2.2.2.2.2.2.2)]))], [(A 1, .inl (cyI, 91, .inl (M1.2.1)))], [(A 2, .inl (cyI, 546, .inl (M1.2.2.1)))], [(A 3, .inl (cyI, 60, .inl (M1.2.2.2.2.1)))], [(A 4, .inl (cyI, 20, .inl (M1.2.2.2.2.2.2.1)))], [(A 5, .inl (cyI, 6, .inl (M1.2.2.2.2.2.2.2.1)))], [(A 6, .inl (cyI, 6, .inl (M1.2.2.2.2.2.2.2.2.1)))], [(A 7, .inl (cyI, 6, .inl (M1.2.2.2.2.2.2.2.2.2.1)))]]) := hD
        refine lv_iload_n hx hb dX6_run_88 rfl (lv_at hl 2 rfl) ?_
        have hgo : cat [[(A 0, .inr (6, [.int (M1.1), .ref (A 1), .ref (A 2), .int (nI (M1.2.2.2.1)), .ref (A 3), .int ((0 : Int32)), .ref (A 4), .ref (A 5), .ref (A 6), .ref (A 7), .int (M1.2.2.2.2.2.2.2.2.2.2.1), .int (M1.2.2.2.2.2.2.2.2.2.2.2)]))], [(A 1, .inl (cyI, 91, .inl (M1.2.1)))], [(A 2, .inl (cyI, 546, .inl (M1.2.2.1)))], [(A 3, .inl (cyI, 60, .inl (M1.2.2.2.2.1)))], [(A 4, .inl (cyI, 20, .inl (M1.2.2.2.2.2.2.1)))], [(A 5, .inl (cyI, 6, .inl (M1.2.2.2.2.2.2.2.1)))], [(A 6, .inl (cyI, 6, .inl (M1.2.2.2.2.2.2.2.2.1)))], [(A 7, .inl (cyI, 6, .inl (M1.2.2.2.2.2.2.2.2.2.1)))]] = cat [mdW cyI A ((mRun M).1)] := by rw [mRun, if_pos (i32_lt c_5), ← hfin]; rfl
        rw [hgo] at hP hD
        have hP : va_P G vwCl (cat [mdW cyI A ((mRun M).1)]) H := hP
        have hD : va_D A9 (cat [mdW cyI A ((mRun M).1)]) := hD
        exact end_i hx hb hr hlocks hK hP hD hS (by rw [mRun, if_pos (i32_lt c_5), ← hfin]) dX6_run_89
      · have c_36 : (gb) = true := bI_nz.mp c_36
        subst c_36
        have he : rnF f k M1 x = rnF 61 0 (mRun0 M) 0 := he
        have hf := hf rfl
        refine lv_iload_n hx hb dX6_run_39 rfl (lv_at hl 1 rfl) ?_
        refine lv_aload_n hx hb dX6_run_40 rfl (lv_at hl 3 rfl) ?_
        refine va_get (v := .int (nI (M1.2.2.2.2.2.1))) (C := RX6) (T := TX6) (N := 12) hx hb hts hinX6 hown hK hP 0 rfl rfl 5 (by decide) hf146 (fun _ h9 => h9) rfl dX6_run_41 ?_
        refine lv_icmp_ge (tgt := 83) hx hb dX6_run_44 (by decide) (fun c_44 => ?_) (fun c_44 => ?_)
        · have c_44 : (M1.2.2.2.2.2.1) ≤ (k) := (nI_leI (a := M1.2.2.2.2.2.1) (b := k) (by omega) (by omega)).mp c_44
          have hfin : (M1, x) = rnF 61 0 (mRun0 M) 0 := (rnF_end (by omega)).symm.trans he
          refine lv_aload_n hx hb dX6_run_83 rfl (lv_at hl 3 rfl) ?_
          refine lv_iconst (v := (0 : Int32)) hx hb dX6_run_84 (by decide) ?_
          have hP : va_P G vwCl (cat [[(A 0, .inr (6, [.int (M1.1), .ref (A 1), .ref (A 2), .int (nI (M1.2.2.2.1)), .ref (A 3), .int (nI (M1.2.2.2.2.2.1)), .ref (A 4), .ref (A 5), .ref (A 6), .ref (A 7), .int (M1.2.2.2.2.2.2.2.2.2.2.1), .int (M1.2.2.2.2.2.2.2.2.2.2.2)]))], [(A 1, .inl (cyI, 91, .inl (M1.2.1)))], [(A 2, .inl (cyI, 546, .inl (M1.2.2.1)))], [(A 3, .inl (cyI, 60, .inl (M1.2.2.2.2.1)))], [(A 4, .inl (cyI, 20, .inl (M1.2.2.2.2.2.2.1)))], [(A 5, .inl (cyI, 6, .inl (M1.2.2.2.2.2.2.2.1)))], [(A 6, .inl (cyI, 6, .inl (M1.2.2.2.2.2.2.2.2.1)))], [(A 7, .inl (cyI, 6, .inl (M1.2.2.2.2.2.2.2.2.2.1)))]]) H := hP
          have hD : va_D A9 (cat [[(A 0, .inr (6, [.int (M1.1), .ref (A 1), .ref (A 2), .int (nI (M1.2.2.2.1)), .ref (A 3), .int (nI (M1.2.2.2.2.2.1)), .ref (A 4), .ref (A 5), .ref (A 6), .ref (A 7), .int (M1.2.2.2.2.2.2.2.2.2.2.1), .int (M1.2.2.2.2.2.2.2.2.2.2.2)]))], [(A 1, .inl (cyI, 91, .inl (M1.2.1)))], [(A 2, .inl (cyI, 546, .inl (M1.2.2.1)))], [(A 3, .inl (cyI, 60, .inl (M1.2.2.2.2.1)))], [(A 4, .inl (cyI, 20, .inl (M1.2.2.2.2.2.2.1)))], [(A 5, .inl (cyI, 6, .inl (M1.2.2.2.2.2.2.2.1)))], [(A 6, .inl (cyI, 6, .inl (M1.2.2.2.2.2.2.2.2.1)))], [(A 7, .inl (cyI, 6, .inl (M1.2.2.2.2.2.2.2.2.2.1)))]]) := hD
          refine va_put (v := .int ((0 : Int32))) (ty := .int) (C := RX6) (T := TX6) (N := 12) hx hb hts hinX6 tyX6 tyX6_ok nmX6 hown hK hP hD hS 0 rfl rfl 5 (by decide) hf146 (fun _ h9 => h9) rfl (by first | rfl | decide +kernel) rfl rfl (Nat.le_of_ble_eq_true rfl) dX6_run_85 (fun H locs hP hD hS => ?_)
          have hP : va_P G vwCl (cat [[(A 0, .inr (6, [.int (M1.1), .ref (A 1), .ref (A 2), .int (nI (M1.2.2.2.1)), .ref (A 3), .int ((0 : Int32)), .ref (A 4), .ref (A 5), .ref (A 6), .ref (A 7), .int (M1.2.2.2.2.2.2.2.2.2.2.1), .int (M1.2.2.2.2.2.2.2.2.2.2.2)]))], [(A 1, .inl (cyI, 91, .inl (M1.2.1)))], [(A 2, .inl (cyI, 546, .inl (M1.2.2.1)))], [(A 3, .inl (cyI, 60, .inl (M1.2.2.2.2.1)))], [(A 4, .inl (cyI, 20, .inl (M1.2.2.2.2.2.2.1)))], [(A 5, .inl (cyI, 6, .inl (M1.2.2.2.2.2.2.2.1)))], [(A 6, .inl (cyI, 6, .inl (M1.2.2.2.2.2.2.2.2.1)))], [(A 7, .inl (cyI, 6, .inl (M1.2.2.2.2.2.2.2.2.2.1)))]]) H := hP
          have hD : va_D A9 (cat [[(A 0, .inr (6, [.int (M1.1), .ref (A 1), .ref (A 2), .int (nI (M1.2.2.2.1)), .ref (A 3), .int ((0 : Int32)), .ref (A 4), .ref (A 5), .ref (A 6), .ref (A 7), .int (M1.2.2.2.2.2.2.2.2.2.2.1), .int (M1.2.2.2.2.2.2.2.2.2.2.2)]))], [(A 1, .inl (cyI, 91, .inl (M1.2.1)))], [(A 2, .inl (cyI, 546, .inl (M1.2.2.1)))], [(A 3, .inl (cyI, 60, .inl (M1.2.2.2.2.1)))], [(A 4, .inl (cyI, 20, .inl (M1.2.2.2.2.2.2.1)))], [(A 5, .inl (cyI, 6, .inl (M1.2.2.2.2.2.2.2.1)))], [(A 6, .inl (cyI, 6, .inl (M1.2.2.2.2.2.2.2.2.1)))], [(A 7, .inl (cyI, 6, .inl (M1.2.2.2.2.2.2.2.2.2.1)))]]) := hD
          refine lv_iload_n hx hb dX6_run_88 rfl (lv_at hl 2 rfl) ?_
          have hgo : cat [[(A 0, .inr (6, [.int (M1.1), .ref (A 1), .ref (A 2), .int (nI (M1.2.2.2.1)), .ref (A 3), .int ((0 : Int32)), .ref (A 4), .ref (A 5), .ref (A 6), .ref (A 7), .int (M1.2.2.2.2.2.2.2.2.2.2.1), .int (M1.2.2.2.2.2.2.2.2.2.2.2)]))], [(A 1, .inl (cyI, 91, .inl (M1.2.1)))], [(A 2, .inl (cyI, 546, .inl (M1.2.2.1)))], [(A 3, .inl (cyI, 60, .inl (M1.2.2.2.2.1)))], [(A 4, .inl (cyI, 20, .inl (M1.2.2.2.2.2.2.1)))], [(A 5, .inl (cyI, 6, .inl (M1.2.2.2.2.2.2.2.1)))], [(A 6, .inl (cyI, 6, .inl (M1.2.2.2.2.2.2.2.2.1)))], [(A 7, .inl (cyI, 6, .inl (M1.2.2.2.2.2.2.2.2.2.1)))]] = cat [mdW cyI A ((mRun M).1)] := by rw [mRun, if_pos (i32_lt c_5), ← hfin]; rfl
          rw [hgo] at hP hD
          have hP : va_P G vwCl (cat [mdW cyI A ((mRun M).1)]) H := hP
          have hD : va_D A9 (cat [mdW cyI A ((mRun M).1)]) := hD
          exact end_i hx hb hr hlocks hK hP hD hS (by rw [mRun, if_pos (i32_lt c_5), ← hfin]) dX6_run_89
        · have c_44 : ¬ (M1.2.2.2.2.2.1) ≤ (k) := fun h9 => c_44 ((nI_leI (a := M1.2.2.2.2.2.1) (b := k) (by omega) (by omega)).mpr h9)
          have c_44 : k < M1.2.2.2.2.2.1 := by omega
          obtain ⟨k2, hk2, hk3, hk4, hcf2⟩ := cf_step (by omega) hL1 (hCF rfl c_44) M1.2.2.2.2.2.2.2.2.2.2.2
          obtain ⟨f2, hff⟩ : ∃ f2, f = f2 + 1 := ⟨f - 1, by omega⟩
          refine lv_aload_n hx hb dX6_run_47 rfl (lv_at hl 3 rfl) ?_
          refine lv_iload_n hx hb dX6_run_48 rfl (lv_at hl 1 rfl) ?_
          refine gVi (gs := [mdW cyI A M1]) (As := [.int (nI (k))]) (rest := []) ⟨hx, hb, hml, hown, hts⟩ (c_X6_readPart l G cyI cyO A M1 k (hL1) (by omega)) (cwV 1 hts gX6_run_X6_readPart rfl rfl rfl (by decide +kernel) ⟨Nat.le_of_ble_eq_true rfl, Nat.le_of_ble_eq_true rfl⟩) hK hP hD hS hA [0] rfl rfl rfl 0 6 rfl rfl rfl hl.1 rfl (Nat.le_of_ble_eq_true rfl) dX6_run_49 ⟨Nat.le_refl _, Nat.le_refl _⟩ (fun H locs hP hD hS => ?_)
          have hP : va_P G vwCl (cat [mdW cyI A ((M1.1, M1.2.1, M1.2.2.1, M1.2.2.2.1, M1.2.2.2.2.1, M1.2.2.2.2.2.1, M1.2.2.2.2.2.2.1, M1.2.2.2.2.2.2.2.1, M1.2.2.2.2.2.2.2.2.1, M1.2.2.2.2.2.2.2.2.2.1, (rpF M1.2.2.2.2.1 M1.2.2.2.2.2.1 M1.2.2.2.2.2.2.2.2.2.2.2 k).2.1, (rpF M1.2.2.2.2.1 M1.2.2.2.2.2.1 M1.2.2.2.2.2.2.2.2.2.2.2 k).2.2))]) H := hP
          have hD : va_D A9 (cat [mdW cyI A ((M1.1, M1.2.1, M1.2.2.1, M1.2.2.2.1, M1.2.2.2.2.1, M1.2.2.2.2.2.1, M1.2.2.2.2.2.2.1, M1.2.2.2.2.2.2.2.1, M1.2.2.2.2.2.2.2.2.1, M1.2.2.2.2.2.2.2.2.2.1, (rpF M1.2.2.2.2.1 M1.2.2.2.2.2.1 M1.2.2.2.2.2.2.2.2.2.2.2 k).2.1, (rpF M1.2.2.2.2.1 M1.2.2.2.2.2.1 M1.2.2.2.2.2.2.2.2.2.2.2 k).2.2))]) := hD
          refine top_i (x' := nI (k2)) (hk2) ?_
          refine lv_iconst (v := (1 : Int32)) hx hb dX6_run_52 (by decide) ?_
          refine lv_iadd hx hb dX6_run_53 ?_
          refine top_i (x' := nI (k2 + 1)) (nI_add (k2) (1)) ?_
          refine lv_istore_n (lv' := [(2, .int (nI (k2 + 1))), (3, .int (bI (true))), (1, .int (nI (x))), (0, .ref (A 0))]) hx hb dX6_run_54 rfl hl (by decide) rfl (fun ls hl => ?_)
          refine lv_aload_n hx hb dX6_run_55 rfl (lv_at hl 3 rfl) ?_
          refine gVi (gs := [mdW cyI A ((M1.1, M1.2.1, M1.2.2.1, M1.2.2.2.1, M1.2.2.2.2.1, M1.2.2.2.2.2.1, M1.2.2.2.2.2.2.1, M1.2.2.2.2.2.2.2.1, M1.2.2.2.2.2.2.2.2.1, M1.2.2.2.2.2.2.2.2.2.1, (rpF M1.2.2.2.2.1 M1.2.2.2.2.2.1 M1.2.2.2.2.2.2.2.2.2.2.2 k).2.1, (rpF M1.2.2.2.2.1 M1.2.2.2.2.2.1 M1.2.2.2.2.2.2.2.2.2.2.2 k).2.2))]) (As := []) (rest := []) ⟨hx, hb, hml, hown, hts⟩ (c_X6_noPart l G cyI cyO A ((M1.1, M1.2.1, M1.2.2.1, M1.2.2.2.1, M1.2.2.2.2.1, M1.2.2.2.2.2.1, M1.2.2.2.2.2.2.1, M1.2.2.2.2.2.2.2.1, M1.2.2.2.2.2.2.2.2.1, M1.2.2.2.2.2.2.2.2.2.1, (rpF M1.2.2.2.2.1 M1.2.2.2.2.2.1 M1.2.2.2.2.2.2.2.2.2.2.2 k).2.1, (rpF M1.2.2.2.2.1 M1.2.2.2.2.2.1 M1.2.2.2.2.2.2.2.2.2.2.2 k).2.2)) n1 (hJ1.mi)) (cwV 0 hts gX6_run_X6_noPart rfl rfl rfl (by decide +kernel) ⟨Nat.le_of_ble_eq_true rfl, Nat.le_of_ble_eq_true rfl⟩) hK hP hD hS hA [0] rfl rfl rfl 0 6 rfl rfl rfl hl.1 rfl (Nat.le_of_ble_eq_true rfl) dX6_run_56 ⟨Nat.le_refl _, Nat.le_refl _⟩ (fun H locs hP hD hS => ?_)
          have hP : va_P G vwCl (cat [mdW cyI A ((M1.1, M1.2.1, M1.2.2.1, M1.2.2.2.1, M1.2.2.2.2.1, M1.2.2.2.2.2.1, M1.2.2.2.2.2.2.1, M1.2.2.2.2.2.2.2.1, M1.2.2.2.2.2.2.2.2.1, M1.2.2.2.2.2.2.2.2.2.1, (rpF M1.2.2.2.2.1 M1.2.2.2.2.2.1 M1.2.2.2.2.2.2.2.2.2.2.2 k).2.1, (rpF M1.2.2.2.2.1 M1.2.2.2.2.2.1 M1.2.2.2.2.2.2.2.2.2.2.2 k).2.2))]) H := hP
          have hD : va_D A9 (cat [mdW cyI A ((M1.1, M1.2.1, M1.2.2.1, M1.2.2.2.1, M1.2.2.2.2.1, M1.2.2.2.2.2.1, M1.2.2.2.2.2.2.1, M1.2.2.2.2.2.2.2.1, M1.2.2.2.2.2.2.2.2.1, M1.2.2.2.2.2.2.2.2.2.1, (rpF M1.2.2.2.2.1 M1.2.2.2.2.2.1 M1.2.2.2.2.2.2.2.2.2.2.2 k).2.1, (rpF M1.2.2.2.2.1 M1.2.2.2.2.2.1 M1.2.2.2.2.2.2.2.2.2.2.2 k).2.2))]) := hD
          refine lv_if_ne (tgt := 66) hx hb dX6_run_59 (by decide) (fun c_59 => ?_) (fun c_59 => ?_)
          · refine lv_iconst (v := (0 : Int32)) hx hb dX6_run_66 (by decide) ?_
            refine lv_istore_n (lv' := [(3, .int ((0 : Int32))), (2, .int (nI (k2 + 1))), (1, .int (nI (x))), (0, .ref (A 0))]) hx hb dX6_run_67 rfl hl (by decide) rfl (fun ls hl => ?_)
            refine lv_iload_n hx hb dX6_run_68 rfl (lv_at hl 0 rfl) ?_
            refine lv_if_eq (tgt := 35) hx hb dX6_run_69 (by decide) (fun c_69 => ?_) (fun c_69 => ?_)
            · exact ih_35 (f, k2 + 1, (M1.1, M1.2.1, M1.2.2.1, M1.2.2.2.1, M1.2.2.2.2.1, M1.2.2.2.2.2.1, M1.2.2.2.2.2.2.1, M1.2.2.2.2.2.2.2.1, M1.2.2.2.2.2.2.2.2.1, M1.2.2.2.2.2.2.2.2.2.1, (rpF M1.2.2.2.2.1 M1.2.2.2.2.2.1 M1.2.2.2.2.2.2.2.2.2.2.2 k).2.1, (rpF M1.2.2.2.2.1 M1.2.2.2.2.2.1 M1.2.2.2.2.2.2.2.2.2.2.2 k).2.2), x, false, n1) (by first | (show f - 1 + 1 < f + 1; omega) | (show 0 < f + 1; omega)) _ _ _ ⟨(show MJ M1.2.1 n1 from by first | exact hJ2 | exact hJ1), (show M1.2.2.2.2.2.1 ≤ 60 from by first | (rw [mDoPart_ln]; exact hL1) | exact hL1), (show (k2 + 1) ≤ 61 from by omega), (show false = true → M1.2.2.2.2.2.1 < f + (k2 + 1) from fun _ => by first | (rw [mDoPart_ln]; show M1.2.2.2.2.2.1 < f - 1 + (k2 + 1); omega) | (show M1.2.2.2.2.2.1 < f + (k2 + 1); omega)), (show false = true → (k2 + 1) < M1.2.2.2.2.2.1 → CF M1.2.2.2.2.1 M1.2.2.2.2.2.1 (k2 + 1) from fun _ h9 => by first | (rw [mDoPart_ln, mDoPart_tx]; rw [mDoPart_ln] at h9; exact hcf2 h9) | exact hcf2 h9), (show (if false = true then rnF f (k2 + 1) ((M1.1, M1.2.1, M1.2.2.1, M1.2.2.2.1, M1.2.2.2.2.1, M1.2.2.2.2.2.1, M1.2.2.2.2.2.2.1, M1.2.2.2.2.2.2.2.1, M1.2.2.2.2.2.2.2.2.1, M1.2.2.2.2.2.2.2.2.2.1, (rpF M1.2.2.2.2.1 M1.2.2.2.2.2.1 M1.2.2.2.2.2.2.2.2.2.2.2 k).2.1, (rpF M1.2.2.2.2.1 M1.2.2.2.2.2.1 M1.2.2.2.2.2.2.2.2.2.2.2 k).2.2)) x else (((M1.1, M1.2.1, M1.2.2.1, M1.2.2.2.1, M1.2.2.2.2.1, M1.2.2.2.2.2.1, M1.2.2.2.2.2.2.1, M1.2.2.2.2.2.2.2.1, M1.2.2.2.2.2.2.2.2.1, M1.2.2.2.2.2.2.2.2.2.1, (rpF M1.2.2.2.2.1 M1.2.2.2.2.2.1 M1.2.2.2.2.2.2.2.2.2.2.2 k).2.1, (rpF M1.2.2.2.2.1 M1.2.2.2.2.2.1 M1.2.2.2.2.2.2.2.2.2.2.2 k).2.2)), x)) = rnF 61 0 (mRun0 M) 0 from by first | exact (rnF_go hff c_44 hk2 (by omega) hJ1.mn c_59).symm.trans he | exact (rnF_stop hff c_44 hJ1.mn c_59).symm.trans he), hP, hD, hS, lv_sub hl [0, 1, 2, 3] rfl⟩
            · exact absurd c_69 (by decide)
          · refine lv_iconst (v := (1 : Int32)) hx hb dX6_run_62 (by decide) ?_
            refine lv_goto (tgt := 67) hx hb dX6_run_63 (by decide) ?_
            refine lv_istore_n (lv' := [(3, .int ((1 : Int32))), (2, .int (nI (k2 + 1))), (1, .int (nI (x))), (0, .ref (A 0))]) hx hb dX6_run_67 rfl hl (by decide) rfl (fun ls hl => ?_)
            refine lv_iload_n hx hb dX6_run_68 rfl (lv_at hl 0 rfl) ?_
            refine lv_if_eq (tgt := 35) hx hb dX6_run_69 (by decide) (fun c_69 => ?_) (fun c_69 => ?_)
            · exact absurd c_69 (by decide)
            · obtain ⟨n2, hJ2⟩ := MJ.part (M := (M1.1, M1.2.1, M1.2.2.1, M1.2.2.2.1, M1.2.2.2.2.1, M1.2.2.2.2.2.1, M1.2.2.2.2.2.2.1, M1.2.2.2.2.2.2.2.1, M1.2.2.2.2.2.2.2.2.1, M1.2.2.2.2.2.2.2.2.2.1, (rpF M1.2.2.2.2.1 M1.2.2.2.2.2.1 M1.2.2.2.2.2.2.2.2.2.2.2 k).2.1, (rpF M1.2.2.2.2.1 M1.2.2.2.2.2.1 M1.2.2.2.2.2.2.2.2.2.2.2 k).2.2)) (n := n1) hJ1 c_59
              refine lv_aload_n hx hb dX6_run_72 rfl (lv_at hl 3 rfl) ?_
              refine gVi (gs := [mdW cyI A ((M1.1, M1.2.1, M1.2.2.1, M1.2.2.2.1, M1.2.2.2.2.1, M1.2.2.2.2.2.1, M1.2.2.2.2.2.2.1, M1.2.2.2.2.2.2.2.1, M1.2.2.2.2.2.2.2.2.1, M1.2.2.2.2.2.2.2.2.2.1, (rpF M1.2.2.2.2.1 M1.2.2.2.2.2.1 M1.2.2.2.2.2.2.2.2.2.2.2 k).2.1, (rpF M1.2.2.2.2.1 M1.2.2.2.2.2.1 M1.2.2.2.2.2.2.2.2.2.2.2 k).2.2))]) (As := []) (rest := []) ⟨hx, hb, hml, hown, hts⟩ (c_X6_doPart l G cyI cyO A ((M1.1, M1.2.1, M1.2.2.1, M1.2.2.2.1, M1.2.2.2.2.1, M1.2.2.2.2.2.1, M1.2.2.2.2.2.2.1, M1.2.2.2.2.2.2.2.1, M1.2.2.2.2.2.2.2.2.1, M1.2.2.2.2.2.2.2.2.2.1, (rpF M1.2.2.2.2.1 M1.2.2.2.2.2.1 M1.2.2.2.2.2.2.2.2.2.2.2 k).2.1, (rpF M1.2.2.2.2.1 M1.2.2.2.2.2.1 M1.2.2.2.2.2.2.2.2.2.2.2 k).2.2)) n1 (hJ1.mi) (c_59)) (cwV 0 hts gX6_run_X6_doPart rfl rfl rfl (by decide +kernel) ⟨Nat.le_of_ble_eq_true rfl, Nat.le_of_ble_eq_true rfl⟩) hK hP hD hS hA [0] rfl rfl rfl 0 6 rfl rfl rfl hl.1 rfl (Nat.le_of_ble_eq_true rfl) dX6_run_73 ⟨Nat.le_refl _, Nat.le_refl _⟩ (fun H locs hP hD hS => ?_)
              have hP : va_P G vwCl (cat [mdW cyI A ((mDoPart ((M1.1, M1.2.1, M1.2.2.1, M1.2.2.2.1, M1.2.2.2.2.1, M1.2.2.2.2.2.1, M1.2.2.2.2.2.2.1, M1.2.2.2.2.2.2.2.1, M1.2.2.2.2.2.2.2.2.1, M1.2.2.2.2.2.2.2.2.2.1, (rpF M1.2.2.2.2.1 M1.2.2.2.2.2.1 M1.2.2.2.2.2.2.2.2.2.2.2 k).2.1, (rpF M1.2.2.2.2.1 M1.2.2.2.2.2.1 M1.2.2.2.2.2.2.2.2.2.2.2 k).2.2)) n1).1)]) H := hP
              have hD : va_D A9 (cat [mdW cyI A ((mDoPart ((M1.1, M1.2.1, M1.2.2.1, M1.2.2.2.1, M1.2.2.2.2.1, M1.2.2.2.2.2.1, M1.2.2.2.2.2.2.1, M1.2.2.2.2.2.2.2.1, M1.2.2.2.2.2.2.2.2.1, M1.2.2.2.2.2.2.2.2.2.1, (rpF M1.2.2.2.2.1 M1.2.2.2.2.2.1 M1.2.2.2.2.2.2.2.2.2.2.2 k).2.1, (rpF M1.2.2.2.2.1 M1.2.2.2.2.2.1 M1.2.2.2.2.2.2.2.2.2.2.2 k).2.2)) n1).1)]) := hD
              refine lv_pop hx hb dX6_run_76 rfl ?_
              refine lv_iinc (v := nI (x + 1)) (lv' := [(1, .int (nI (x + 1))), (3, .int ((1 : Int32))), (2, .int (nI (k2 + 1))), (0, .ref (A 0))]) hx hb dX6_run_77 hl (k := 2) rfl (nI_add _ _) (by decide) rfl (fun ls hl => ?_)
              refine lv_goto (tgt := 35) hx hb dX6_run_80 (by decide) ?_
              exact ih_35 (f - 1, k2 + 1, (mDoPart ((M1.1, M1.2.1, M1.2.2.1, M1.2.2.2.1, M1.2.2.2.2.1, M1.2.2.2.2.2.1, M1.2.2.2.2.2.2.1, M1.2.2.2.2.2.2.2.1, M1.2.2.2.2.2.2.2.2.1, M1.2.2.2.2.2.2.2.2.2.1, (rpF M1.2.2.2.2.1 M1.2.2.2.2.2.1 M1.2.2.2.2.2.2.2.2.2.2.2 k).2.1, (rpF M1.2.2.2.2.1 M1.2.2.2.2.2.1 M1.2.2.2.2.2.2.2.2.2.2.2 k).2.2)) n1).1, x + 1, true, n2) (by first | (show f - 1 + 1 < f + 1; omega) | (show 0 < f + 1; omega)) _ _ _ ⟨(show MJ ((mDoPart ((M1.1, M1.2.1, M1.2.2.1, M1.2.2.2.1, M1.2.2.2.2.1, M1.2.2.2.2.2.1, M1.2.2.2.2.2.2.1, M1.2.2.2.2.2.2.2.1, M1.2.2.2.2.2.2.2.2.1, M1.2.2.2.2.2.2.2.2.2.1, (rpF M1.2.2.2.2.1 M1.2.2.2.2.2.1 M1.2.2.2.2.2.2.2.2.2.2.2 k).2.1, (rpF M1.2.2.2.2.1 M1.2.2.2.2.2.1 M1.2.2.2.2.2.2.2.2.2.2.2 k).2.2)) n1).1).2.1 n2 from by first | exact hJ2 | exact hJ1), (show ((mDoPart ((M1.1, M1.2.1, M1.2.2.1, M1.2.2.2.1, M1.2.2.2.2.1, M1.2.2.2.2.2.1, M1.2.2.2.2.2.2.1, M1.2.2.2.2.2.2.2.1, M1.2.2.2.2.2.2.2.2.1, M1.2.2.2.2.2.2.2.2.2.1, (rpF M1.2.2.2.2.1 M1.2.2.2.2.2.1 M1.2.2.2.2.2.2.2.2.2.2.2 k).2.1, (rpF M1.2.2.2.2.1 M1.2.2.2.2.2.1 M1.2.2.2.2.2.2.2.2.2.2.2 k).2.2)) n1).1).2.2.2.2.2.1 ≤ 60 from by first | (rw [mDoPart_ln]; exact hL1) | exact hL1), (show (k2 + 1) ≤ 61 from by omega), (show true = true → ((mDoPart ((M1.1, M1.2.1, M1.2.2.1, M1.2.2.2.1, M1.2.2.2.2.1, M1.2.2.2.2.2.1, M1.2.2.2.2.2.2.1, M1.2.2.2.2.2.2.2.1, M1.2.2.2.2.2.2.2.2.1, M1.2.2.2.2.2.2.2.2.2.1, (rpF M1.2.2.2.2.1 M1.2.2.2.2.2.1 M1.2.2.2.2.2.2.2.2.2.2.2 k).2.1, (rpF M1.2.2.2.2.1 M1.2.2.2.2.2.1 M1.2.2.2.2.2.2.2.2.2.2.2 k).2.2)) n1).1).2.2.2.2.2.1 < (f - 1) + (k2 + 1) from fun _ => by first | (rw [mDoPart_ln]; show M1.2.2.2.2.2.1 < f - 1 + (k2 + 1); omega) | (show M1.2.2.2.2.2.1 < f + (k2 + 1); omega)), (show true = true → (k2 + 1) < ((mDoPart ((M1.1, M1.2.1, M1.2.2.1, M1.2.2.2.1, M1.2.2.2.2.1, M1.2.2.2.2.2.1, M1.2.2.2.2.2.2.1, M1.2.2.2.2.2.2.2.1, M1.2.2.2.2.2.2.2.2.1, M1.2.2.2.2.2.2.2.2.2.1, (rpF M1.2.2.2.2.1 M1.2.2.2.2.2.1 M1.2.2.2.2.2.2.2.2.2.2.2 k).2.1, (rpF M1.2.2.2.2.1 M1.2.2.2.2.2.1 M1.2.2.2.2.2.2.2.2.2.2.2 k).2.2)) n1).1).2.2.2.2.2.1 → CF ((mDoPart ((M1.1, M1.2.1, M1.2.2.1, M1.2.2.2.1, M1.2.2.2.2.1, M1.2.2.2.2.2.1, M1.2.2.2.2.2.2.1, M1.2.2.2.2.2.2.2.1, M1.2.2.2.2.2.2.2.2.1, M1.2.2.2.2.2.2.2.2.2.1, (rpF M1.2.2.2.2.1 M1.2.2.2.2.2.1 M1.2.2.2.2.2.2.2.2.2.2.2 k).2.1, (rpF M1.2.2.2.2.1 M1.2.2.2.2.2.1 M1.2.2.2.2.2.2.2.2.2.2.2 k).2.2)) n1).1).2.2.2.2.1 ((mDoPart ((M1.1, M1.2.1, M1.2.2.1, M1.2.2.2.1, M1.2.2.2.2.1, M1.2.2.2.2.2.1, M1.2.2.2.2.2.2.1, M1.2.2.2.2.2.2.2.1, M1.2.2.2.2.2.2.2.2.1, M1.2.2.2.2.2.2.2.2.2.1, (rpF M1.2.2.2.2.1 M1.2.2.2.2.2.1 M1.2.2.2.2.2.2.2.2.2.2.2 k).2.1, (rpF M1.2.2.2.2.1 M1.2.2.2.2.2.1 M1.2.2.2.2.2.2.2.2.2.2.2 k).2.2)) n1).1).2.2.2.2.2.1 (k2 + 1) from fun _ h9 => by first | (rw [mDoPart_ln, mDoPart_tx]; rw [mDoPart_ln] at h9; exact hcf2 h9) | exact hcf2 h9), (show (if true = true then rnF (f - 1) (k2 + 1) ((mDoPart ((M1.1, M1.2.1, M1.2.2.1, M1.2.2.2.1, M1.2.2.2.2.1, M1.2.2.2.2.2.1, M1.2.2.2.2.2.2.1, M1.2.2.2.2.2.2.2.1, M1.2.2.2.2.2.2.2.2.1, M1.2.2.2.2.2.2.2.2.2.1, (rpF M1.2.2.2.2.1 M1.2.2.2.2.2.1 M1.2.2.2.2.2.2.2.2.2.2.2 k).2.1, (rpF M1.2.2.2.2.1 M1.2.2.2.2.2.1 M1.2.2.2.2.2.2.2.2.2.2.2 k).2.2)) n1).1) (x + 1) else (((mDoPart ((M1.1, M1.2.1, M1.2.2.1, M1.2.2.2.1, M1.2.2.2.2.1, M1.2.2.2.2.2.1, M1.2.2.2.2.2.2.1, M1.2.2.2.2.2.2.2.1, M1.2.2.2.2.2.2.2.2.1, M1.2.2.2.2.2.2.2.2.2.1, (rpF M1.2.2.2.2.1 M1.2.2.2.2.2.1 M1.2.2.2.2.2.2.2.2.2.2.2 k).2.1, (rpF M1.2.2.2.2.1 M1.2.2.2.2.2.1 M1.2.2.2.2.2.2.2.2.2.2.2 k).2.2)) n1).1), (x + 1))) = rnF 61 0 (mRun0 M) 0 from by first | exact (rnF_go hff c_44 hk2 (by omega) hJ1.mn c_59).symm.trans he | exact (rnF_stop hff c_44 hJ1.mn c_59).symm.trans he), hP, hD, hS, lv_sub hl [1, 2, 0, 3] rfl⟩
    · exact absurd c_20 (by decide)

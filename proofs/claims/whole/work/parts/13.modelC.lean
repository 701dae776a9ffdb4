/-! ===== DoorstepRoundsModel: the change text ===== -/
def mAt (t : Nat → Int32) (L k : Nat) : Int32 := if k < L then t k else 0
def rdR (t : Nat → Int32) (L k : Nat) (lo hi : Int32) : Int32 := if isDig (mAt t L k - 48) lo hi = true then nI (k + 1) else -1 - nI k
theorem neg_of (k : Nat) (hk : k < 1000) : (-1 - nI k) < 0 := by
  rw [Int32.lt_iff_toInt_lt, Int32.toInt_sub, nI_toInt (by omega)]
  have : (-1 : Int32).toInt = -1 := by decide
  have h0 : (0 : Int32).toInt = 0 := by decide
  rw [this, h0]
  rw [Int.bmod_eq_of_le (by omega) (by omega)]
  omega
theorem i32_lt {x : Int32} (h : ¬ 0 ≤ x) : x < 0 := by
  rw [Int32.le_iff_toInt_le] at h
  rw [Int32.lt_iff_toInt_lt]
  omega
theorem i32_nle {x : Int32} (h : ¬ x ≤ 0) : 0 < x := by
  rw [Int32.le_iff_toInt_le] at h
  rw [Int32.lt_iff_toInt_lt]
  omega
theorem i32_lt_le {x : Int32} (h : x < 0) : x ≤ 0 := by
  rw [Int32.lt_iff_toInt_lt] at h
  rw [Int32.le_iff_toInt_le]
  omega
theorem rd_pos {t : Nat → Int32} {L k : Nat} {lo hi : Int32} (hk : k < 1000) (h : ¬ rdR t L k lo hi ≤ 0) : rdR t L k lo hi = nI (k + 1) := by
  unfold rdR at h ⊢
  split
  · rfl
  · next hc => rw [if_neg hc] at h; exact absurd (i32_lt_le (neg_of k hk)) h
def rpF (t : Nat → Int32) (L : Nat) (nu : Int32) (k : Nat) : Int32 × Int32 × Int32 :=
  if mAt t L k = 43 then (rdR t L (k + 1) 1 9, mAt t L k, mAt t L (k + 1) - 48)
  else if mAt t L k = 45 then
    (if rdR t L (k + 1) 0 9 ≤ 0 then (rdR t L (k + 1) 0 9, mAt t L k, mAt t L (k + 1) - 48)
     else if mAt t L (k + 1) - 48 = 1 then
       (if isDig (mAt t L (k + 1 + 1)) 48 57 = true then (nI (k + 1 + 1 + 1), mAt t L k, 10 + mAt t L (k + 1 + 1) - 48) else (nI (k + 1 + 1), mAt t L k, mAt t L (k + 1) - 48))
     else (nI (k + 1 + 1), mAt t L k, mAt t L (k + 1) - 48))
  else if mAt t L k = 99 then (rdR t L (k + 1) 0 5, mAt t L k, mAt t L (k + 1) - 48)
  else if mAt t L k = 100 then (nI (k + 1), mAt t L k, nu)
  else if mAt t L k = 104 then (nI (k + 1), mAt t L k, nu)
  else if mAt t L k = 108 then (rdR t L (k + 1) 0 5, mAt t L k, mAt t L (k + 1) - 48)
  else if mAt t L k = 112 then (nI (k + 1), mAt t L k, nu)
  else if mAt t L k = 120 then (nI (k + 1), mAt t L k, nu)
  else (-1 - nI k, mAt t L k, nu)
theorem mAt_in {t : Nat → Int32} {L k : Nat} {w : Int32} (h : mAt t L k = w) (hw : ¬ w = 0) : k < L := by
  unfold mAt at h
  split at h
  · next hc => exact hc
  · exact absurd h.symm hw
theorem rd_in {t : Nat → Int32} {L k : Nat} {lo hi : Int32} (hk : k < 1000) (hlo : ¬ (0 : Int32) - 48 < lo → False) (h : 0 ≤ rdR t L k lo hi) : rdR t L k lo hi = nI (k + 1) ∧ k < L := by
  unfold rdR at h ⊢
  by_cases hc : isDig (mAt t L k - 48) lo hi = true
  · rw [if_pos hc]
    refine ⟨rfl, ?_⟩
    by_cases hl : k < L
    · exact hl
    · unfold mAt isDig at hc
      rw [if_neg hl] at hc
      simp only [Bool.and_eq_true, Bool.not_eq_true', decide_eq_false_iff_not] at hc
      exact (hlo hc.1).elim
  · rw [if_neg hc] at h
    exact absurd (neg_of k hk) (by rw [Int32.le_iff_toInt_le] at h; rw [Int32.lt_iff_toInt_lt]; omega)
theorem rp_pos {t : Nat → Int32} {L k : Nat} {nu : Int32} (hk : k < 900) (h : 0 ≤ (rpF t L nu k).1) : ∃ k2, (rpF t L nu k).1 = nI k2 ∧ k < k2 ∧ k2 ≤ L := by
  have one : ∀ w, mAt t L k = w → ¬ w = 0 → k < L := fun w h1 h2 => mAt_in h1 h2
  unfold rpF at h ⊢
  by_cases c1 : mAt t L k = 43
  · rw [if_pos c1] at h ⊢
    obtain ⟨e, hl⟩ := rd_in (by omega) (by decide) h
    exact ⟨k + 1 + 1, e, by omega, by omega⟩
  rw [if_neg c1] at h ⊢
  by_cases c2 : mAt t L k = 45
  · rw [if_pos c2] at h ⊢
    by_cases d1 : rdR t L (k + 1) 0 9 ≤ 0
    · rw [if_pos d1] at h ⊢
      obtain ⟨e, hl⟩ := rd_in (by omega) (by decide) h
      exact ⟨k + 1 + 1, e, by omega, by omega⟩
    · have hge : 0 ≤ rdR t L (k + 1) 0 9 := by
        have := i32_nle d1
        rw [Int32.lt_iff_toInt_lt] at this
        rw [Int32.le_iff_toInt_le]; omega
      obtain ⟨e, hl⟩ := rd_in (by omega) (by decide) hge
      rw [if_neg d1] at h ⊢
      by_cases d2 : mAt t L (k + 1) - 48 = 1
      · rw [if_pos d2] at h ⊢
        by_cases d3 : isDig (mAt t L (k + 1 + 1)) 48 57 = true
        · rw [if_pos d3] at h ⊢
          refine ⟨k + 1 + 1 + 1, rfl, by omega, ?_⟩
          by_cases hl3 : k + 1 + 1 < L
          · omega
          · unfold mAt at d3
            rw [if_neg hl3] at d3
            exact absurd d3 (by decide)
        · rw [if_neg d3] at h ⊢
          exact ⟨k + 1 + 1, rfl, by omega, by omega⟩
      · rw [if_neg d2] at h ⊢
        exact ⟨k + 1 + 1, rfl, by omega, by omega⟩
  rw [if_neg c2] at h ⊢
  by_cases c3 : mAt t L k = 99
  · rw [if_pos c3] at h ⊢
    obtain ⟨e, hl⟩ := rd_in (by omega) (by decide) h
    exact ⟨k + 1 + 1, e, by omega, by omega⟩
  rw [if_neg c3] at h ⊢
  by_cases c4 : mAt t L k = 100
  · rw [if_pos c4] at h ⊢
    exact ⟨k + 1, rfl, by omega, one _ c4 (by decide)⟩
  rw [if_neg c4] at h ⊢
  by_cases c5 : mAt t L k = 104
  · rw [if_pos c5] at h ⊢
    exact ⟨k + 1, rfl, by omega, one _ c5 (by decide)⟩
  rw [if_neg c5] at h ⊢
  by_cases c6 : mAt t L k = 108
  · rw [if_pos c6] at h ⊢
    obtain ⟨e, hl⟩ := rd_in (by omega) (by decide) h
    exact ⟨k + 1 + 1, e, by omega, by omega⟩
  rw [if_neg c6] at h ⊢
  by_cases c7 : mAt t L k = 112
  · rw [if_pos c7] at h ⊢
    exact ⟨k + 1, rfl, by omega, one _ c7 (by decide)⟩
  rw [if_neg c7] at h ⊢
  by_cases c8 : mAt t L k = 120
  · rw [if_pos c8] at h ⊢
    exact ⟨k + 1, rfl, by omega, one _ c8 (by decide)⟩
  rw [if_neg c8] at h
  have h : 0 ≤ (-1 - nI k) := h
  exact absurd (neg_of k (by omega)) (by rw [Int32.le_iff_toInt_le] at h; rw [Int32.lt_iff_toInt_lt]; omega)
/-- the text's error, or -1: with what was read last -/
def feF (t : Nat → Int32) (L : Nat) : Nat → Nat → Int32 → Int32 × Int32 × Int32
  | 0, _, nu => (0, 0, nu)
  | f + 1, k, nu => if (rpF t L nu k).1 < 0 then (-1 - (rpF t L nu k).1, (rpF t L nu k).2.1, (rpF t L nu k).2.2)
    else if (rpF t L nu k).1 = nI L then (-1, (rpF t L nu k).2.1, (rpF t L nu k).2.2)
    else if t (rpF t L nu k).1.toNatClampNeg = 59 then feF t L f ((rpF t L nu k).1.toNatClampNeg + 1) (rpF t L nu k).2.2
    else ((rpF t L nu k).1, (rpF t L nu k).2.1, (rpF t L nu k).2.2)
theorem feF_go {t : Nat → Int32} {L f k k2 : Nat} {nu : Int32} (h : (rpF t L nu k).1 = nI k2) (h1 : k2 < 2147483648) (hL : L < 2147483648) (h2 : ¬ k2 = L) (h3 : t k2 = 59) : feF t L (f + 1) k nu = feF t L f (k2 + 1) (rpF t L nu k).2.2 := by
  show (if (rpF t L nu k).1 < 0 then _ else _) = _
  rw [h, if_neg (nI_pos h1), if_neg (fun h9 => h2 ((nI_eq h1 hL).mp h9)), nI_clamp h1, if_pos h3]

abbrev rm_X6_at : Room := { frames := 0, cells := 0, slots := 0, locals := 0 }
set_option maxHeartbeats 4000000 in
set_option maxRecDepth 100000 in
theorem c_X6_at (l : Launch) (G : va_G) (cyI cyO : ClassId) (A : Nat → Nat) (M : MS) (k : Nat) (hln : M.2.2.2.2.2.1 ≤ 60) (hk : k < 2147483648) : CI l G (TY cyI cyO) yX6_at wsX6_at rm_X6_at [.ref (A 0), .int (nI (k))] [mdW cyI A M] (mAt M.2.2.2.2.1 M.2.2.2.2.2.1 k) [mdW cyI A M] := by
  refine wk_I (cc := cX6_at) (maxL := 2) (ret := (some .int)) (by decide) rfl (Nat.le_of_ble_eq_true rfl) ?_
  intro p9 e9 s9 m9 b9 t9 c9 A9 ls hx hb hr hts hown hlocks hml hK hA hD hP hl hS hnm
  have hl : lv_has ls 2 [(0, .ref (A 0)), (1, .int (nI (k)))] := hl
  have hinX6 : ∀ w ∈ wsX60, w ∈ wsX6_at := by decide +kernel
  have hf146 := hts (.fieldLink RX6 146 "DoorstepRoundsModel" "length" "I") (by decide +kernel)
  have hf16 := hts (.fieldLink RX6 16 "DoorstepRoundsModel" "text" "[I") (by decide +kernel)
  have hk9 : k < 2147483648 := hk
  refine lv_iload_n hx hb dX6_at_0 rfl (lv_at hl 1 rfl) ?_
  refine lv_aload_n hx hb dX6_at_1 rfl (lv_at hl 0 rfl) ?_
  refine va_get (v := .int (nI (M.2.2.2.2.2.1))) (C := RX6) (T := TX6) (N := 12) hx hb hts hinX6 hown hK hP 0 rfl rfl 5 (by decide) hf146 (fun _ h9 => h9) rfl dX6_at_2 ?_
  refine lv_icmp_ge (tgt := 17) hx hb dX6_at_5 (by decide) (fun c_5 => ?_) (fun c_5 => ?_)
  · have c_5 : (M.2.2.2.2.2.1) ≤ (k) := (nI_leI (a := M.2.2.2.2.2.1) (b := k) (by omega) (by omega)).mp c_5
    refine lv_iconst (v := (0 : Int32)) hx hb dX6_at_17 (by decide) ?_
    have hP : va_P G vwCl (cat [mdW cyI A M]) s9.heap := hP
    have hD : va_D A9 (cat [mdW cyI A M]) := hD
    exact end_i hx hb hr hlocks hK hP hD hS (by first | (rw [mAt, if_neg (by omega)]; done) | (rw [mAt, if_pos (by omega)]; done)) dX6_at_18
  · have c_5 : ¬ (M.2.2.2.2.2.1) ≤ (k) := fun h9 => c_5 ((nI_leI (a := M.2.2.2.2.2.1) (b := k) (by omega) (by omega)).mpr h9)
    refine lv_aload_n hx hb dX6_at_8 rfl (lv_at hl 0 rfl) ?_
    refine va_get (v := .ref (A 3)) (C := RX6) (T := TX6) (N := 12) hx hb hts hinX6 hown hK hP 0 rfl rfl 4 (by decide) hf16 (fun _ h9 => h9) rfl dX6_at_9 ?_
    refine lv_iload_n hx hb dX6_at_12 rfl (lv_at hl 1 rfl) ?_
    refine r_ild (k := k) (n := 60) (f := M.2.2.2.2.1) hx hb hK hP 3 0 rfl rfl (by omega) (by omega) rfl dX6_at_13 ?_
    refine lv_goto (tgt := 18) hx hb dX6_at_14 (by decide) ?_
    have hP : va_P G vwCl (cat [mdW cyI A M]) s9.heap := hP
    have hD : va_D A9 (cat [mdW cyI A M]) := hD
    exact end_i hx hb hr hlocks hK hP hD hS (by first | (rw [mAt, if_neg (by omega)]; done) | (rw [mAt, if_pos (by omega)]; done)) dX6_at_18
abbrev rm_X6_readDigit : Room := { frames := 1, cells := 0, slots := 0, locals := 22 }
set_option maxHeartbeats 4000000 in
set_option maxRecDepth 100000 in
theorem c_X6_readDigit (l : Launch) (G : va_G) (cyI cyO : ClassId) (A : Nat → Nat) (M : MS) (k : Nat) (lo hi : Int32) (hln : M.2.2.2.2.2.1 ≤ 60) (hk : k < 200) : CI l G (TY cyI cyO) yX6_readDigit wsX6_readDigit rm_X6_readDigit [.ref (A 0), .int (nI (k)), .int (lo), .int (hi)] [mdW cyI A M] (rdR M.2.2.2.2.1 M.2.2.2.2.2.1 k lo hi) [mdW cyI A ((M.1, M.2.1, M.2.2.1, M.2.2.2.1, M.2.2.2.2.1, M.2.2.2.2.2.1, M.2.2.2.2.2.2.1, M.2.2.2.2.2.2.2.1, M.2.2.2.2.2.2.2.2.1, M.2.2.2.2.2.2.2.2.2.1, M.2.2.2.2.2.2.2.2.2.2.1, mAt M.2.2.2.2.1 M.2.2.2.2.2.1 k - 48))] := by
  refine wk_I (cc := cX6_readDigit) (maxL := 4) (ret := (some .int)) (by decide) rfl (Nat.le_of_ble_eq_true rfl) ?_
  intro p9 e9 s9 m9 b9 t9 c9 A9 ls hx hb hr hts hown hlocks hml hK hA hD hP hl hS hnm
  have hl : lv_has ls 4 [(0, .ref (A 0)), (1, .int (nI (k))), (2, .int (lo)), (3, .int (hi))] := hl
  have hinX6 : ∀ w ∈ wsX60, w ∈ wsX6_readDigit := by decide +kernel
  have hf152 := hts (.fieldLink RX6 152 "DoorstepRoundsModel" "number" "I") (by decide +kernel)
  have hP : va_P G vwCl (cat [[(A 0, .inr (6, [.int (M.1), .ref (A 1), .ref (A 2), .int (nI (M.2.2.2.1)), .ref (A 3), .int (nI (M.2.2.2.2.2.1)), .ref (A 4), .ref (A 5), .ref (A 6), .ref (A 7), .int (M.2.2.2.2.2.2.2.2.2.2.1), .int (M.2.2.2.2.2.2.2.2.2.2.2)]))], [(A 1, .inl (cyI, 91, .inl (M.2.1)))], [(A 2, .inl (cyI, 546, .inl (M.2.2.1)))], [(A 3, .inl (cyI, 60, .inl (M.2.2.2.2.1)))], [(A 4, .inl (cyI, 20, .inl (M.2.2.2.2.2.2.1)))], [(A 5, .inl (cyI, 6, .inl (M.2.2.2.2.2.2.2.1)))], [(A 6, .inl (cyI, 6, .inl (M.2.2.2.2.2.2.2.2.1)))], [(A 7, .inl (cyI, 6, .inl (M.2.2.2.2.2.2.2.2.2.1)))]]) s9.heap := hP
  have hD : va_D A9 (cat [[(A 0, .inr (6, [.int (M.1), .ref (A 1), .ref (A 2), .int (nI (M.2.2.2.1)), .ref (A 3), .int (nI (M.2.2.2.2.2.1)), .ref (A 4), .ref (A 5), .ref (A 6), .ref (A 7), .int (M.2.2.2.2.2.2.2.2.2.2.1), .int (M.2.2.2.2.2.2.2.2.2.2.2)]))], [(A 1, .inl (cyI, 91, .inl (M.2.1)))], [(A 2, .inl (cyI, 546, .inl (M.2.2.1)))], [(A 3, .inl (cyI, 60, .inl (M.2.2.2.2.1)))], [(A 4, .inl (cyI, 20, .inl (M.2.2.2.2.2.2.1)))], [(A 5, .inl (cyI, 6, .inl (M.2.2.2.2.2.2.2.1)))], [(A 6, .inl (cyI, 6, .inl (M.2.2.2.2.2.2.2.2.1)))], [(A 7, .inl (cyI, 6, .inl (M.2.2.2.2.2.2.2.2.2.1)))]]) := hD
  refine lv_aload_n hx hb dX6_readDigit_0 rfl (lv_at hl 0 rfl) ?_
  refine lv_aload_n hx hb dX6_readDigit_1 rfl (lv_at hl 0 rfl) ?_
  refine lv_iload_n hx hb dX6_readDigit_2 rfl (lv_at hl 1 rfl) ?_
  have hP : va_P G vwCl (cat [mdW cyI A ((M.1, M.2.1, M.2.2.1, M.2.2.2.1, M.2.2.2.2.1, M.2.2.2.2.2.1, M.2.2.2.2.2.2.1, M.2.2.2.2.2.2.2.1, M.2.2.2.2.2.2.2.2.1, M.2.2.2.2.2.2.2.2.2.1, M.2.2.2.2.2.2.2.2.2.2.1, M.2.2.2.2.2.2.2.2.2.2.2))]) s9.heap := hP
  have hD : va_D A9 (cat [mdW cyI A ((M.1, M.2.1, M.2.2.1, M.2.2.2.1, M.2.2.2.2.1, M.2.2.2.2.2.1, M.2.2.2.2.2.2.1, M.2.2.2.2.2.2.2.1, M.2.2.2.2.2.2.2.2.1, M.2.2.2.2.2.2.2.2.2.1, M.2.2.2.2.2.2.2.2.2.2.1, M.2.2.2.2.2.2.2.2.2.2.2))]) := hD
  refine gVi (gs := [mdW cyI A ((M.1, M.2.1, M.2.2.1, M.2.2.2.1, M.2.2.2.2.1, M.2.2.2.2.2.1, M.2.2.2.2.2.2.1, M.2.2.2.2.2.2.2.1, M.2.2.2.2.2.2.2.2.1, M.2.2.2.2.2.2.2.2.2.1, M.2.2.2.2.2.2.2.2.2.2.1, M.2.2.2.2.2.2.2.2.2.2.2))]) (As := [.int (nI (k))]) (rest := [.ref (A 0)]) ⟨hx, hb, hml, hown, hts⟩ (c_X6_at l G cyI cyO A ((M.1, M.2.1, M.2.2.1, M.2.2.2.1, M.2.2.2.2.1, M.2.2.2.2.2.1, M.2.2.2.2.2.2.1, M.2.2.2.2.2.2.2.1, M.2.2.2.2.2.2.2.2.1, M.2.2.2.2.2.2.2.2.2.1, M.2.2.2.2.2.2.2.2.2.2.1, M.2.2.2.2.2.2.2.2.2.2.2)) k hln (by omega)) (cwV 1 hts gX6_readDigit_X6_at rfl rfl rfl (by decide +kernel) ⟨Nat.le_of_ble_eq_true rfl, Nat.le_of_ble_eq_true rfl⟩) hK hP hD hS hA [0] rfl rfl rfl 0 6 rfl rfl rfl hl.1 rfl (Nat.le_of_ble_eq_true rfl) dX6_readDigit_3 ⟨Nat.le_refl _, Nat.le_refl _⟩ (fun H locs hP hD hS => ?_)
  have hP : va_P G vwCl (cat [mdW cyI A ((M.1, M.2.1, M.2.2.1, M.2.2.2.1, M.2.2.2.2.1, M.2.2.2.2.2.1, M.2.2.2.2.2.2.1, M.2.2.2.2.2.2.2.1, M.2.2.2.2.2.2.2.2.1, M.2.2.2.2.2.2.2.2.2.1, M.2.2.2.2.2.2.2.2.2.2.1, M.2.2.2.2.2.2.2.2.2.2.2))]) H := hP
  have hD : va_D A9 (cat [mdW cyI A ((M.1, M.2.1, M.2.2.1, M.2.2.2.1, M.2.2.2.2.1, M.2.2.2.2.2.1, M.2.2.2.2.2.2.1, M.2.2.2.2.2.2.2.1, M.2.2.2.2.2.2.2.2.1, M.2.2.2.2.2.2.2.2.2.1, M.2.2.2.2.2.2.2.2.2.2.1, M.2.2.2.2.2.2.2.2.2.2.2))]) := hD
  refine lv_bipush (v := (48 : Int32)) hx hb dX6_readDigit_6 (by decide) ?_
  refine lv_isub hx hb dX6_readDigit_8 ?_
  have hP : va_P G vwCl (cat [[(A 0, .inr (6, [.int (M.1), .ref (A 1), .ref (A 2), .int (nI (M.2.2.2.1)), .ref (A 3), .int (nI (M.2.2.2.2.2.1)), .ref (A 4), .ref (A 5), .ref (A 6), .ref (A 7), .int (M.2.2.2.2.2.2.2.2.2.2.1), .int (M.2.2.2.2.2.2.2.2.2.2.2)]))], [(A 1, .inl (cyI, 91, .inl (M.2.1)))], [(A 2, .inl (cyI, 546, .inl (M.2.2.1)))], [(A 3, .inl (cyI, 60, .inl (M.2.2.2.2.1)))], [(A 4, .inl (cyI, 20, .inl (M.2.2.2.2.2.2.1)))], [(A 5, .inl (cyI, 6, .inl (M.2.2.2.2.2.2.2.1)))], [(A 6, .inl (cyI, 6, .inl (M.2.2.2.2.2.2.2.2.1)))], [(A 7, .inl (cyI, 6, .inl (M.2.2.2.2.2.2.2.2.2.1)))]]) H := hP
  have hD : va_D A9 (cat [[(A 0, .inr (6, [.int (M.1), .ref (A 1), .ref (A 2), .int (nI (M.2.2.2.1)), .ref (A 3), .int (nI (M.2.2.2.2.2.1)), .ref (A 4), .ref (A 5), .ref (A 6), .ref (A 7), .int (M.2.2.2.2.2.2.2.2.2.2.1), .int (M.2.2.2.2.2.2.2.2.2.2.2)]))], [(A 1, .inl (cyI, 91, .inl (M.2.1)))], [(A 2, .inl (cyI, 546, .inl (M.2.2.1)))], [(A 3, .inl (cyI, 60, .inl (M.2.2.2.2.1)))], [(A 4, .inl (cyI, 20, .inl (M.2.2.2.2.2.2.1)))], [(A 5, .inl (cyI, 6, .inl (M.2.2.2.2.2.2.2.1)))], [(A 6, .inl (cyI, 6, .inl (M.2.2.2.2.2.2.2.2.1)))], [(A 7, .inl (cyI, 6, .inl (M.2.2.2.2.2.2.2.2.2.1)))]]) := hD
  refine va_put (v := .int ((mAt M.2.2.2.2.1 M.2.2.2.2.2.1 k) - ((48 : Int32)))) (ty := .int) (C := RX6) (T := TX6) (N := 12) hx hb hts hinX6 tyX6 tyX6_ok nmX6 hown hK hP hD hS 0 rfl rfl 11 (by decide) hf152 (fun _ h9 => h9) rfl (by first | rfl | decide +kernel) rfl rfl (Nat.le_of_ble_eq_true rfl) dX6_readDigit_9 (fun H locs hP hD hS => ?_)
  have hP : va_P G vwCl (cat [[(A 0, .inr (6, [.int (M.1), .ref (A 1), .ref (A 2), .int (nI (M.2.2.2.1)), .ref (A 3), .int (nI (M.2.2.2.2.2.1)), .ref (A 4), .ref (A 5), .ref (A 6), .ref (A 7), .int (M.2.2.2.2.2.2.2.2.2.2.1), .int ((mAt M.2.2.2.2.1 M.2.2.2.2.2.1 k) - ((48 : Int32)))]))], [(A 1, .inl (cyI, 91, .inl (M.2.1)))], [(A 2, .inl (cyI, 546, .inl (M.2.2.1)))], [(A 3, .inl (cyI, 60, .inl (M.2.2.2.2.1)))], [(A 4, .inl (cyI, 20, .inl (M.2.2.2.2.2.2.1)))], [(A 5, .inl (cyI, 6, .inl (M.2.2.2.2.2.2.2.1)))], [(A 6, .inl (cyI, 6, .inl (M.2.2.2.2.2.2.2.2.1)))], [(A 7, .inl (cyI, 6, .inl (M.2.2.2.2.2.2.2.2.2.1)))]]) H := hP
  have hD : va_D A9 (cat [[(A 0, .inr (6, [.int (M.1), .ref (A 1), .ref (A 2), .int (nI (M.2.2.2.1)), .ref (A 3), .int (nI (M.2.2.2.2.2.1)), .ref (A 4), .ref (A 5), .ref (A 6), .ref (A 7), .int (M.2.2.2.2.2.2.2.2.2.2.1), .int ((mAt M.2.2.2.2.1 M.2.2.2.2.2.1 k) - ((48 : Int32)))]))], [(A 1, .inl (cyI, 91, .inl (M.2.1)))], [(A 2, .inl (cyI, 546, .inl (M.2.2.1)))], [(A 3, .inl (cyI, 60, .inl (M.2.2.2.2.1)))], [(A 4, .inl (cyI, 20, .inl (M.2.2.2.2.2.2.1)))], [(A 5, .inl (cyI, 6, .inl (M.2.2.2.2.2.2.2.1)))], [(A 6, .inl (cyI, 6, .inl (M.2.2.2.2.2.2.2.2.1)))], [(A 7, .inl (cyI, 6, .inl (M.2.2.2.2.2.2.2.2.2.1)))]]) := hD
  refine lv_aload_n hx hb dX6_readDigit_12 rfl (lv_at hl 0 rfl) ?_
  refine va_get (v := .int ((mAt M.2.2.2.2.1 M.2.2.2.2.2.1 k) - ((48 : Int32)))) (C := RX6) (T := TX6) (N := 12) hx hb hts hinX6 hown hK hP 0 rfl rfl 11 (by decide) hf152 (fun _ h9 => h9) rfl dX6_readDigit_13 ?_
  refine lv_iload_n hx hb dX6_readDigit_16 rfl (lv_at hl 2 rfl) ?_
  refine lv_iload_n hx hb dX6_readDigit_17 rfl (lv_at hl 3 rfl) ?_
  refine gSi (gs := [[(A 0, .inr (6, [.int (M.1), .ref (A 1), .ref (A 2), .int (nI (M.2.2.2.1)), .ref (A 3), .int (nI (M.2.2.2.2.2.1)), .ref (A 4), .ref (A 5), .ref (A 6), .ref (A 7), .int (M.2.2.2.2.2.2.2.2.2.2.1), .int ((mAt M.2.2.2.2.1 M.2.2.2.2.2.1 k) - ((48 : Int32)))]))], [(A 1, .inl (cyI, 91, .inl (M.2.1)))], [(A 2, .inl (cyI, 546, .inl (M.2.2.1)))], [(A 3, .inl (cyI, 60, .inl (M.2.2.2.2.1)))], [(A 4, .inl (cyI, 20, .inl (M.2.2.2.2.2.2.1)))], [(A 5, .inl (cyI, 6, .inl (M.2.2.2.2.2.2.2.1)))], [(A 6, .inl (cyI, 6, .inl (M.2.2.2.2.2.2.2.2.1)))], [(A 7, .inl (cyI, 6, .inl (M.2.2.2.2.2.2.2.2.2.1)))]]) (As := [.int ((mAt M.2.2.2.2.1 M.2.2.2.2.2.1 k) - ((48 : Int32))), .int (lo), .int (hi)]) (rest := []) ⟨hx, hb, hml, hown, hts⟩ (c_X6_in l G cyI cyO ((mAt M.2.2.2.2.1 M.2.2.2.2.2.1 k) - ((48 : Int32))) lo hi) (va_cwS 3 hts gX6_readDigit_X6_in rfl rfl rfl (by decide +kernel) ⟨Nat.le_of_ble_eq_true rfl, Nat.le_of_ble_eq_true rfl⟩) hK hP hD hS hA [] rfl rfl rfl rfl hl.1 rfl (Nat.le_of_ble_eq_true rfl) dX6_readDigit_18 ⟨Nat.le_refl _, Nat.le_refl _⟩ (fun H locs hP hD hS => ?_)
  have hP : va_P G vwCl (cat [[(A 0, .inr (6, [.int (M.1), .ref (A 1), .ref (A 2), .int (nI (M.2.2.2.1)), .ref (A 3), .int (nI (M.2.2.2.2.2.1)), .ref (A 4), .ref (A 5), .ref (A 6), .ref (A 7), .int (M.2.2.2.2.2.2.2.2.2.2.1), .int ((mAt M.2.2.2.2.1 M.2.2.2.2.2.1 k) - ((48 : Int32)))]))], [(A 1, .inl (cyI, 91, .inl (M.2.1)))], [(A 2, .inl (cyI, 546, .inl (M.2.2.1)))], [(A 3, .inl (cyI, 60, .inl (M.2.2.2.2.1)))], [(A 4, .inl (cyI, 20, .inl (M.2.2.2.2.2.2.1)))], [(A 5, .inl (cyI, 6, .inl (M.2.2.2.2.2.2.2.1)))], [(A 6, .inl (cyI, 6, .inl (M.2.2.2.2.2.2.2.2.1)))], [(A 7, .inl (cyI, 6, .inl (M.2.2.2.2.2.2.2.2.2.1)))]]) H := hP
  have hD : va_D A9 (cat [[(A 0, .inr (6, [.int (M.1), .ref (A 1), .ref (A 2), .int (nI (M.2.2.2.1)), .ref (A 3), .int (nI (M.2.2.2.2.2.1)), .ref (A 4), .ref (A 5), .ref (A 6), .ref (A 7), .int (M.2.2.2.2.2.2.2.2.2.2.1), .int ((mAt M.2.2.2.2.1 M.2.2.2.2.2.1 k) - ((48 : Int32)))]))], [(A 1, .inl (cyI, 91, .inl (M.2.1)))], [(A 2, .inl (cyI, 546, .inl (M.2.2.1)))], [(A 3, .inl (cyI, 60, .inl (M.2.2.2.2.1)))], [(A 4, .inl (cyI, 20, .inl (M.2.2.2.2.2.2.1)))], [(A 5, .inl (cyI, 6, .inl (M.2.2.2.2.2.2.2.1)))], [(A 6, .inl (cyI, 6, .inl (M.2.2.2.2.2.2.2.2.1)))], [(A 7, .inl (cyI, 6, .inl (M.2.2.2.2.2.2.2.2.2.1)))]]) := hD
  refine lv_if_eq (tgt := 30) hx hb dX6_readDigit_21 (by decide) (fun c_21 => ?_) (fun c_21 => ?_)
  · have c_21 : (isDig ((mAt M.2.2.2.2.1 M.2.2.2.2.2.1 k) - ((48 : Int32))) lo hi) = false := bI_z.mp c_21
    refine lv_iconst (v := (-1 : Int32)) hx hb dX6_readDigit_30 (by decide) ?_
    refine lv_iload_n hx hb dX6_readDigit_31 rfl (lv_at hl 1 rfl) ?_
    refine lv_isub hx hb dX6_readDigit_32 ?_
    have hP : va_P G vwCl (cat [mdW cyI A ((M.1, M.2.1, M.2.2.1, M.2.2.2.1, M.2.2.2.2.1, M.2.2.2.2.2.1, M.2.2.2.2.2.2.1, M.2.2.2.2.2.2.2.1, M.2.2.2.2.2.2.2.2.1, M.2.2.2.2.2.2.2.2.2.1, M.2.2.2.2.2.2.2.2.2.2.1, mAt M.2.2.2.2.1 M.2.2.2.2.2.1 k - 48))]) H := hP
    have hD : va_D A9 (cat [mdW cyI A ((M.1, M.2.1, M.2.2.1, M.2.2.2.1, M.2.2.2.2.1, M.2.2.2.2.2.1, M.2.2.2.2.2.2.1, M.2.2.2.2.2.2.2.1, M.2.2.2.2.2.2.2.2.1, M.2.2.2.2.2.2.2.2.2.1, M.2.2.2.2.2.2.2.2.2.2.1, mAt M.2.2.2.2.1 M.2.2.2.2.2.1 k - 48))]) := hD
    exact end_i hx hb hr hlocks hK hP hD hS (by simp [rdR, c_21]) dX6_readDigit_33
  · have c_21 : (isDig ((mAt M.2.2.2.2.1 M.2.2.2.2.2.1 k) - ((48 : Int32))) lo hi) = true := bI_nz.mp c_21
    refine lv_iload_n hx hb dX6_readDigit_24 rfl (lv_at hl 1 rfl) ?_
    refine lv_iconst (v := (1 : Int32)) hx hb dX6_readDigit_25 (by decide) ?_
    refine lv_iadd hx hb dX6_readDigit_26 ?_
    refine top_i (x' := nI (k + 1)) (nI_add (k) (1)) ?_
    refine lv_goto (tgt := 33) hx hb dX6_readDigit_27 (by decide) ?_
    have hP : va_P G vwCl (cat [mdW cyI A ((M.1, M.2.1, M.2.2.1, M.2.2.2.1, M.2.2.2.2.1, M.2.2.2.2.2.1, M.2.2.2.2.2.2.1, M.2.2.2.2.2.2.2.1, M.2.2.2.2.2.2.2.2.1, M.2.2.2.2.2.2.2.2.2.1, M.2.2.2.2.2.2.2.2.2.2.1, mAt M.2.2.2.2.1 M.2.2.2.2.2.1 k - 48))]) H := hP
    have hD : va_D A9 (cat [mdW cyI A ((M.1, M.2.1, M.2.2.1, M.2.2.2.1, M.2.2.2.2.1, M.2.2.2.2.2.1, M.2.2.2.2.2.2.1, M.2.2.2.2.2.2.2.1, M.2.2.2.2.2.2.2.2.1, M.2.2.2.2.2.2.2.2.2.1, M.2.2.2.2.2.2.2.2.2.2.1, mAt M.2.2.2.2.1 M.2.2.2.2.2.1 k - 48))]) := hD
    exact end_i hx hb hr hlocks hK hP hD hS (by simp [rdR, c_21]) dX6_readDigit_33
abbrev rm_X6_readPart : Room := { frames := 2, cells := 0, slots := 0, locals := 45 }
set_option maxHeartbeats 4000000 in
set_option maxRecDepth 100000 in
theorem c_X6_readPart (l : Launch) (G : va_G) (cyI cyO : ClassId) (A : Nat → Nat) (M : MS) (k : Nat) (hln : M.2.2.2.2.2.1 ≤ 60) (hk : k < 100) : CI l G (TY cyI cyO) yX6_readPart wsX6_readPart rm_X6_readPart [.ref (A 0), .int (nI (k))] [mdW cyI A M] ((rpF M.2.2.2.2.1 M.2.2.2.2.2.1 M.2.2.2.2.2.2.2.2.2.2.2 k).1) [mdW cyI A ((M.1, M.2.1, M.2.2.1, M.2.2.2.1, M.2.2.2.2.1, M.2.2.2.2.2.1, M.2.2.2.2.2.2.1, M.2.2.2.2.2.2.2.1, M.2.2.2.2.2.2.2.2.1, M.2.2.2.2.2.2.2.2.2.1, (rpF M.2.2.2.2.1 M.2.2.2.2.2.1 M.2.2.2.2.2.2.2.2.2.2.2 k).2.1, (rpF M.2.2.2.2.1 M.2.2.2.2.2.1 M.2.2.2.2.2.2.2.2.2.2.2 k).2.2))] := by
  refine wk_I (cc := cX6_readPart) (maxL := 3) (ret := (some .int)) (by decide) rfl (Nat.le_of_ble_eq_true rfl) ?_
  intro p9 e9 s9 m9 b9 t9 c9 A9 ls hx hb hr hts hown hlocks hml hK hA hD hP hl hS hnm
  have hl : lv_has ls 3 [(0, .ref (A 0)), (1, .int (nI (k)))] := hl
  have hinX6 : ∀ w ∈ wsX60, w ∈ wsX6_readPart := by decide +kernel
  have hf152 := hts (.fieldLink RX6 152 "DoorstepRoundsModel" "number" "I") (by decide +kernel)
  have hf155 := hts (.fieldLink RX6 155 "DoorstepRoundsModel" "letter" "I") (by decide +kernel)
  have hP : va_P G vwCl (cat [[(A 0, .inr (6, [.int (M.1), .ref (A 1), .ref (A 2), .int (nI (M.2.2.2.1)), .ref (A 3), .int (nI (M.2.2.2.2.2.1)), .ref (A 4), .ref (A 5), .ref (A 6), .ref (A 7), .int (M.2.2.2.2.2.2.2.2.2.2.1), .int (M.2.2.2.2.2.2.2.2.2.2.2)]))], [(A 1, .inl (cyI, 91, .inl (M.2.1)))], [(A 2, .inl (cyI, 546, .inl (M.2.2.1)))], [(A 3, .inl (cyI, 60, .inl (M.2.2.2.2.1)))], [(A 4, .inl (cyI, 20, .inl (M.2.2.2.2.2.2.1)))], [(A 5, .inl (cyI, 6, .inl (M.2.2.2.2.2.2.2.1)))], [(A 6, .inl (cyI, 6, .inl (M.2.2.2.2.2.2.2.2.1)))], [(A 7, .inl (cyI, 6, .inl (M.2.2.2.2.2.2.2.2.2.1)))]]) s9.heap := hP
  have hD : va_D A9 (cat [[(A 0, .inr (6, [.int (M.1), .ref (A 1), .ref (A 2), .int (nI (M.2.2.2.1)), .ref (A 3), .int (nI (M.2.2.2.2.2.1)), .ref (A 4), .ref (A 5), .ref (A 6), .ref (A 7), .int (M.2.2.2.2.2.2.2.2.2.2.1), .int (M.2.2.2.2.2.2.2.2.2.2.2)]))], [(A 1, .inl (cyI, 91, .inl (M.2.1)))], [(A 2, .inl (cyI, 546, .inl (M.2.2.1)))], [(A 3, .inl (cyI, 60, .inl (M.2.2.2.2.1)))], [(A 4, .inl (cyI, 20, .inl (M.2.2.2.2.2.2.1)))], [(A 5, .inl (cyI, 6, .inl (M.2.2.2.2.2.2.2.1)))], [(A 6, .inl (cyI, 6, .inl (M.2.2.2.2.2.2.2.2.1)))], [(A 7, .inl (cyI, 6, .inl (M.2.2.2.2.2.2.2.2.2.1)))]]) := hD
  refine lv_aload_n hx hb dX6_readPart_0 rfl (lv_at hl 0 rfl) ?_
  refine lv_aload_n hx hb dX6_readPart_1 rfl (lv_at hl 0 rfl) ?_
  refine lv_iload_n hx hb dX6_readPart_2 rfl (lv_at hl 1 rfl) ?_
  have hP : va_P G vwCl (cat [mdW cyI A ((M.1, M.2.1, M.2.2.1, M.2.2.2.1, M.2.2.2.2.1, M.2.2.2.2.2.1, M.2.2.2.2.2.2.1, M.2.2.2.2.2.2.2.1, M.2.2.2.2.2.2.2.2.1, M.2.2.2.2.2.2.2.2.2.1, M.2.2.2.2.2.2.2.2.2.2.1, M.2.2.2.2.2.2.2.2.2.2.2))]) s9.heap := hP
  have hD : va_D A9 (cat [mdW cyI A ((M.1, M.2.1, M.2.2.1, M.2.2.2.1, M.2.2.2.2.1, M.2.2.2.2.2.1, M.2.2.2.2.2.2.1, M.2.2.2.2.2.2.2.1, M.2.2.2.2.2.2.2.2.1, M.2.2.2.2.2.2.2.2.2.1, M.2.2.2.2.2.2.2.2.2.2.1, M.2.2.2.2.2.2.2.2.2.2.2))]) := hD
  refine gVi (gs := [mdW cyI A ((M.1, M.2.1, M.2.2.1, M.2.2.2.1, M.2.2.2.2.1, M.2.2.2.2.2.1, M.2.2.2.2.2.2.1, M.2.2.2.2.2.2.2.1, M.2.2.2.2.2.2.2.2.1, M.2.2.2.2.2.2.2.2.2.1, M.2.2.2.2.2.2.2.2.2.2.1, M.2.2.2.2.2.2.2.2.2.2.2))]) (As := [.int (nI (k))]) (rest := [.ref (A 0)]) ⟨hx, hb, hml, hown, hts⟩ (c_X6_at l G cyI cyO A ((M.1, M.2.1, M.2.2.1, M.2.2.2.1, M.2.2.2.2.1, M.2.2.2.2.2.1, M.2.2.2.2.2.2.1, M.2.2.2.2.2.2.2.1, M.2.2.2.2.2.2.2.2.1, M.2.2.2.2.2.2.2.2.2.1, M.2.2.2.2.2.2.2.2.2.2.1, M.2.2.2.2.2.2.2.2.2.2.2)) k hln (by omega)) (cwV 1 hts gX6_readPart_X6_at rfl rfl rfl (by decide +kernel) ⟨Nat.le_of_ble_eq_true rfl, Nat.le_of_ble_eq_true rfl⟩) hK hP hD hS hA [0] rfl rfl rfl 0 6 rfl rfl rfl hl.1 rfl (Nat.le_of_ble_eq_true rfl) dX6_readPart_3 ⟨Nat.le_refl _, Nat.le_refl _⟩ (fun H locs hP hD hS => ?_)
  have hP : va_P G vwCl (cat [mdW cyI A ((M.1, M.2.1, M.2.2.1, M.2.2.2.1, M.2.2.2.2.1, M.2.2.2.2.2.1, M.2.2.2.2.2.2.1, M.2.2.2.2.2.2.2.1, M.2.2.2.2.2.2.2.2.1, M.2.2.2.2.2.2.2.2.2.1, M.2.2.2.2.2.2.2.2.2.2.1, M.2.2.2.2.2.2.2.2.2.2.2))]) H := hP
  have hD : va_D A9 (cat [mdW cyI A ((M.1, M.2.1, M.2.2.1, M.2.2.2.1, M.2.2.2.2.1, M.2.2.2.2.2.1, M.2.2.2.2.2.2.1, M.2.2.2.2.2.2.2.1, M.2.2.2.2.2.2.2.2.1, M.2.2.2.2.2.2.2.2.2.1, M.2.2.2.2.2.2.2.2.2.2.1, M.2.2.2.2.2.2.2.2.2.2.2))]) := hD
  have hP : va_P G vwCl (cat [[(A 0, .inr (6, [.int (M.1), .ref (A 1), .ref (A 2), .int (nI (M.2.2.2.1)), .ref (A 3), .int (nI (M.2.2.2.2.2.1)), .ref (A 4), .ref (A 5), .ref (A 6), .ref (A 7), .int (M.2.2.2.2.2.2.2.2.2.2.1), .int (M.2.2.2.2.2.2.2.2.2.2.2)]))], [(A 1, .inl (cyI, 91, .inl (M.2.1)))], [(A 2, .inl (cyI, 546, .inl (M.2.2.1)))], [(A 3, .inl (cyI, 60, .inl (M.2.2.2.2.1)))], [(A 4, .inl (cyI, 20, .inl (M.2.2.2.2.2.2.1)))], [(A 5, .inl (cyI, 6, .inl (M.2.2.2.2.2.2.2.1)))], [(A 6, .inl (cyI, 6, .inl (M.2.2.2.2.2.2.2.2.1)))], [(A 7, .inl (cyI, 6, .inl (M.2.2.2.2.2.2.2.2.2.1)))]]) H := hP
  have hD : va_D A9 (cat [[(A 0, .inr (6, [.int (M.1), .ref (A 1), .ref (A 2), .int (nI (M.2.2.2.1)), .ref (A 3), .int (nI (M.2.2.2.2.2.1)), .ref (A 4), .ref (A 5), .ref (A 6), .ref (A 7), .int (M.2.2.2.2.2.2.2.2.2.2.1), .int (M.2.2.2.2.2.2.2.2.2.2.2)]))], [(A 1, .inl (cyI, 91, .inl (M.2.1)))], [(A 2, .inl (cyI, 546, .inl (M.2.2.1)))], [(A 3, .inl (cyI, 60, .inl (M.2.2.2.2.1)))], [(A 4, .inl (cyI, 20, .inl (M.2.2.2.2.2.2.1)))], [(A 5, .inl (cyI, 6, .inl (M.2.2.2.2.2.2.2.1)))], [(A 6, .inl (cyI, 6, .inl (M.2.2.2.2.2.2.2.2.1)))], [(A 7, .inl (cyI, 6, .inl (M.2.2.2.2.2.2.2.2.2.1)))]]) := hD
  refine va_put (v := .int (mAt M.2.2.2.2.1 M.2.2.2.2.2.1 k)) (ty := .int) (C := RX6) (T := TX6) (N := 12) hx hb hts hinX6 tyX6 tyX6_ok nmX6 hown hK hP hD hS 0 rfl rfl 10 (by decide) hf155 (fun _ h9 => h9) rfl (by first | rfl | decide +kernel) rfl rfl (Nat.le_of_ble_eq_true rfl) dX6_readPart_6 (fun H locs hP hD hS => ?_)
  have hP : va_P G vwCl (cat [[(A 0, .inr (6, [.int (M.1), .ref (A 1), .ref (A 2), .int (nI (M.2.2.2.1)), .ref (A 3), .int (nI (M.2.2.2.2.2.1)), .ref (A 4), .ref (A 5), .ref (A 6), .ref (A 7), .int (mAt M.2.2.2.2.1 M.2.2.2.2.2.1 k), .int (M.2.2.2.2.2.2.2.2.2.2.2)]))], [(A 1, .inl (cyI, 91, .inl (M.2.1)))], [(A 2, .inl (cyI, 546, .inl (M.2.2.1)))], [(A 3, .inl (cyI, 60, .inl (M.2.2.2.2.1)))], [(A 4, .inl (cyI, 20, .inl (M.2.2.2.2.2.2.1)))], [(A 5, .inl (cyI, 6, .inl (M.2.2.2.2.2.2.2.1)))], [(A 6, .inl (cyI, 6, .inl (M.2.2.2.2.2.2.2.2.1)))], [(A 7, .inl (cyI, 6, .inl (M.2.2.2.2.2.2.2.2.2.1)))]]) H := hP
  have hD : va_D A9 (cat [[(A 0, .inr (6, [.int (M.1), .ref (A 1), .ref (A 2), .int (nI (M.2.2.2.1)), .ref (A 3), .int (nI (M.2.2.2.2.2.1)), .ref (A 4), .ref (A 5), .ref (A 6), .ref (A 7), .int (mAt M.2.2.2.2.1 M.2.2.2.2.2.1 k), .int (M.2.2.2.2.2.2.2.2.2.2.2)]))], [(A 1, .inl (cyI, 91, .inl (M.2.1)))], [(A 2, .inl (cyI, 546, .inl (M.2.2.1)))], [(A 3, .inl (cyI, 60, .inl (M.2.2.2.2.1)))], [(A 4, .inl (cyI, 20, .inl (M.2.2.2.2.2.2.1)))], [(A 5, .inl (cyI, 6, .inl (M.2.2.2.2.2.2.2.1)))], [(A 6, .inl (cyI, 6, .inl (M.2.2.2.2.2.2.2.2.1)))], [(A 7, .inl (cyI, 6, .inl (M.2.2.2.2.2.2.2.2.2.1)))]]) := hD
  refine lv_aload_n hx hb dX6_readPart_9 rfl (lv_at hl 0 rfl) ?_
  refine va_get (v := .int (mAt M.2.2.2.2.1 M.2.2.2.2.2.1 k)) (C := RX6) (T := TX6) (N := 12) hx hb hts hinX6 hown hK hP 0 rfl rfl 10 (by decide) hf155 (fun _ h9 => h9) rfl dX6_readPart_10 ?_
  by_cases c_13_43 : mAt M.2.2.2.2.1 M.2.2.2.2.2.1 k = (43 : Int32)
  · refine lv_lookup (tgt := 88) (off := 75) hx hb dX6_readPart_13 (by decide) (by rw [c_13_43]; rfl) (by decide) ?_
    refine lv_aload_n hx hb dX6_readPart_88 rfl (lv_at hl 0 rfl) ?_
    refine lv_iload_n hx hb dX6_readPart_89 rfl (lv_at hl 1 rfl) ?_
    refine lv_iconst (v := (1 : Int32)) hx hb dX6_readPart_90 (by decide) ?_
    refine lv_iadd hx hb dX6_readPart_91 ?_
    refine top_i (x' := nI (k + 1)) (nI_add (k) (1)) ?_
    refine lv_iconst (v := (1 : Int32)) hx hb dX6_readPart_92 (by decide) ?_
    refine lv_bipush (v := (9 : Int32)) hx hb dX6_readPart_93 (by decide) ?_
    have hP : va_P G vwCl (cat [mdW cyI A ((M.1, M.2.1, M.2.2.1, M.2.2.2.1, M.2.2.2.2.1, M.2.2.2.2.2.1, M.2.2.2.2.2.2.1, M.2.2.2.2.2.2.2.1, M.2.2.2.2.2.2.2.2.1, M.2.2.2.2.2.2.2.2.2.1, mAt M.2.2.2.2.1 M.2.2.2.2.2.1 k, M.2.2.2.2.2.2.2.2.2.2.2))]) H := hP
    have hD : va_D A9 (cat [mdW cyI A ((M.1, M.2.1, M.2.2.1, M.2.2.2.1, M.2.2.2.2.1, M.2.2.2.2.2.1, M.2.2.2.2.2.2.1, M.2.2.2.2.2.2.2.1, M.2.2.2.2.2.2.2.2.1, M.2.2.2.2.2.2.2.2.2.1, mAt M.2.2.2.2.1 M.2.2.2.2.2.1 k, M.2.2.2.2.2.2.2.2.2.2.2))]) := hD
    refine gVi (gs := [mdW cyI A ((M.1, M.2.1, M.2.2.1, M.2.2.2.1, M.2.2.2.2.1, M.2.2.2.2.2.1, M.2.2.2.2.2.2.1, M.2.2.2.2.2.2.2.1, M.2.2.2.2.2.2.2.2.1, M.2.2.2.2.2.2.2.2.2.1, mAt M.2.2.2.2.1 M.2.2.2.2.2.1 k, M.2.2.2.2.2.2.2.2.2.2.2))]) (As := [.int (nI (k + 1)), .int ((1 : Int32)), .int ((9 : Int32))]) (rest := []) ⟨hx, hb, hml, hown, hts⟩ (c_X6_readDigit l G cyI cyO A ((M.1, M.2.1, M.2.2.1, M.2.2.2.1, M.2.2.2.2.1, M.2.2.2.2.2.1, M.2.2.2.2.2.2.1, M.2.2.2.2.2.2.2.1, M.2.2.2.2.2.2.2.2.1, M.2.2.2.2.2.2.2.2.2.1, mAt M.2.2.2.2.1 M.2.2.2.2.2.1 k, M.2.2.2.2.2.2.2.2.2.2.2)) (k + 1) ((1 : Int32)) ((9 : Int32)) hln (by omega)) (cwV 3 hts gX6_readPart_X6_readDigit rfl rfl rfl (by decide +kernel) ⟨Nat.le_of_ble_eq_true rfl, Nat.le_of_ble_eq_true rfl⟩) hK hP hD hS hA [0] rfl rfl rfl 0 6 rfl rfl rfl hl.1 rfl (Nat.le_of_ble_eq_true rfl) dX6_readPart_95 ⟨Nat.le_refl _, Nat.le_refl _⟩ (fun H locs hP hD hS => ?_)
    have hP : va_P G vwCl (cat [mdW cyI A ((M.1, M.2.1, M.2.2.1, M.2.2.2.1, M.2.2.2.2.1, M.2.2.2.2.2.1, M.2.2.2.2.2.2.1, M.2.2.2.2.2.2.2.1, M.2.2.2.2.2.2.2.2.1, M.2.2.2.2.2.2.2.2.2.1, (mAt M.2.2.2.2.1 M.2.2.2.2.2.1 k), mAt M.2.2.2.2.1 M.2.2.2.2.2.1 (k + 1) - 48))]) H := hP
    have hD : va_D A9 (cat [mdW cyI A ((M.1, M.2.1, M.2.2.1, M.2.2.2.1, M.2.2.2.2.1, M.2.2.2.2.2.1, M.2.2.2.2.2.2.1, M.2.2.2.2.2.2.2.1, M.2.2.2.2.2.2.2.2.1, M.2.2.2.2.2.2.2.2.2.1, (mAt M.2.2.2.2.1 M.2.2.2.2.2.1 k), mAt M.2.2.2.2.1 M.2.2.2.2.2.1 (k + 1) - 48))]) := hD
    have hrp : rpF M.2.2.2.2.1 M.2.2.2.2.2.1 M.2.2.2.2.2.2.2.2.2.2.2 k = (rdR M.2.2.2.2.1 M.2.2.2.2.2.1 (k + 1) ((1 : Int32)) ((9 : Int32)), (mAt M.2.2.2.2.1 M.2.2.2.2.2.1 k), mAt M.2.2.2.2.1 M.2.2.2.2.2.1 (k + 1) - 48) := by first | (simp [rpF, c_13_43]; done) | (simp [rpF, hrd, c_13_43]; done)
    have hgo : cat [mdW cyI A ((M.1, M.2.1, M.2.2.1, M.2.2.2.1, M.2.2.2.2.1, M.2.2.2.2.2.1, M.2.2.2.2.2.2.1, M.2.2.2.2.2.2.2.1, M.2.2.2.2.2.2.2.2.1, M.2.2.2.2.2.2.2.2.2.1, (mAt M.2.2.2.2.1 M.2.2.2.2.2.1 k), mAt M.2.2.2.2.1 M.2.2.2.2.2.1 (k + 1) - 48))] = cat [mdW cyI A ((M.1, M.2.1, M.2.2.1, M.2.2.2.1, M.2.2.2.2.1, M.2.2.2.2.2.1, M.2.2.2.2.2.2.1, M.2.2.2.2.2.2.2.1, M.2.2.2.2.2.2.2.2.1, M.2.2.2.2.2.2.2.2.2.1, (rpF M.2.2.2.2.1 M.2.2.2.2.2.1 M.2.2.2.2.2.2.2.2.2.2.2 k).2.1, (rpF M.2.2.2.2.1 M.2.2.2.2.2.1 M.2.2.2.2.2.2.2.2.2.2.2 k).2.2))] := by rw [hrp]; try rfl
    rw [hgo] at hP hD
    have hP : va_P G vwCl (cat [mdW cyI A ((M.1, M.2.1, M.2.2.1, M.2.2.2.1, M.2.2.2.2.1, M.2.2.2.2.2.1, M.2.2.2.2.2.2.1, M.2.2.2.2.2.2.2.1, M.2.2.2.2.2.2.2.2.1, M.2.2.2.2.2.2.2.2.2.1, (rpF M.2.2.2.2.1 M.2.2.2.2.2.1 M.2.2.2.2.2.2.2.2.2.2.2 k).2.1, (rpF M.2.2.2.2.1 M.2.2.2.2.2.1 M.2.2.2.2.2.2.2.2.2.2.2 k).2.2))]) H := hP
    have hD : va_D A9 (cat [mdW cyI A ((M.1, M.2.1, M.2.2.1, M.2.2.2.1, M.2.2.2.2.1, M.2.2.2.2.2.1, M.2.2.2.2.2.2.1, M.2.2.2.2.2.2.2.1, M.2.2.2.2.2.2.2.2.1, M.2.2.2.2.2.2.2.2.2.1, (rpF M.2.2.2.2.1 M.2.2.2.2.2.1 M.2.2.2.2.2.2.2.2.2.2.2 k).2.1, (rpF M.2.2.2.2.1 M.2.2.2.2.2.1 M.2.2.2.2.2.2.2.2.2.2.2 k).2.2))]) := hD
    exact end_i hx hb hr hlocks hK hP hD hS (by rw [hrp]) dX6_readPart_98
  by_cases c_13_45 : mAt M.2.2.2.2.1 M.2.2.2.2.2.1 k = (45 : Int32)
  · refine lv_lookup (tgt := 113) (off := 100) hx hb dX6_readPart_13 (by decide) (by rw [c_13_45]; rfl) (by decide) ?_
    refine lv_goto (tgt := 120) hx hb dX6_readPart_113 (by decide) ?_
    refine lv_aload_n hx hb dX6_readPart_120 rfl (lv_at hl 0 rfl) ?_
    refine lv_iload_n hx hb dX6_readPart_121 rfl (lv_at hl 1 rfl) ?_
    refine lv_iconst (v := (1 : Int32)) hx hb dX6_readPart_122 (by decide) ?_
    refine lv_iadd hx hb dX6_readPart_123 ?_
    refine top_i (x' := nI (k + 1)) (nI_add (k) (1)) ?_
    refine lv_iconst (v := (0 : Int32)) hx hb dX6_readPart_124 (by decide) ?_
    refine lv_bipush (v := (9 : Int32)) hx hb dX6_readPart_125 (by decide) ?_
    have hP : va_P G vwCl (cat [mdW cyI A ((M.1, M.2.1, M.2.2.1, M.2.2.2.1, M.2.2.2.2.1, M.2.2.2.2.2.1, M.2.2.2.2.2.2.1, M.2.2.2.2.2.2.2.1, M.2.2.2.2.2.2.2.2.1, M.2.2.2.2.2.2.2.2.2.1, mAt M.2.2.2.2.1 M.2.2.2.2.2.1 k, M.2.2.2.2.2.2.2.2.2.2.2))]) H := hP
    have hD : va_D A9 (cat [mdW cyI A ((M.1, M.2.1, M.2.2.1, M.2.2.2.1, M.2.2.2.2.1, M.2.2.2.2.2.1, M.2.2.2.2.2.2.1, M.2.2.2.2.2.2.2.1, M.2.2.2.2.2.2.2.2.1, M.2.2.2.2.2.2.2.2.2.1, mAt M.2.2.2.2.1 M.2.2.2.2.2.1 k, M.2.2.2.2.2.2.2.2.2.2.2))]) := hD
    refine gVi (gs := [mdW cyI A ((M.1, M.2.1, M.2.2.1, M.2.2.2.1, M.2.2.2.2.1, M.2.2.2.2.2.1, M.2.2.2.2.2.2.1, M.2.2.2.2.2.2.2.1, M.2.2.2.2.2.2.2.2.1, M.2.2.2.2.2.2.2.2.2.1, mAt M.2.2.2.2.1 M.2.2.2.2.2.1 k, M.2.2.2.2.2.2.2.2.2.2.2))]) (As := [.int (nI (k + 1)), .int ((0 : Int32)), .int ((9 : Int32))]) (rest := []) ⟨hx, hb, hml, hown, hts⟩ (c_X6_readDigit l G cyI cyO A ((M.1, M.2.1, M.2.2.1, M.2.2.2.1, M.2.2.2.2.1, M.2.2.2.2.2.1, M.2.2.2.2.2.2.1, M.2.2.2.2.2.2.2.1, M.2.2.2.2.2.2.2.2.1, M.2.2.2.2.2.2.2.2.2.1, mAt M.2.2.2.2.1 M.2.2.2.2.2.1 k, M.2.2.2.2.2.2.2.2.2.2.2)) (k + 1) ((0 : Int32)) ((9 : Int32)) hln (by omega)) (cwV 3 hts gX6_readPart_X6_readDigit rfl rfl rfl (by decide +kernel) ⟨Nat.le_of_ble_eq_true rfl, Nat.le_of_ble_eq_true rfl⟩) hK hP hD hS hA [0] rfl rfl rfl 0 6 rfl rfl rfl hl.1 rfl (Nat.le_of_ble_eq_true rfl) dX6_readPart_127 ⟨Nat.le_refl _, Nat.le_refl _⟩ (fun H locs hP hD hS => ?_)
    have hP : va_P G vwCl (cat [mdW cyI A ((M.1, M.2.1, M.2.2.1, M.2.2.2.1, M.2.2.2.2.1, M.2.2.2.2.2.1, M.2.2.2.2.2.2.1, M.2.2.2.2.2.2.2.1, M.2.2.2.2.2.2.2.2.1, M.2.2.2.2.2.2.2.2.2.1, (mAt M.2.2.2.2.1 M.2.2.2.2.2.1 k), mAt M.2.2.2.2.1 M.2.2.2.2.2.1 (k + 1) - 48))]) H := hP
    have hD : va_D A9 (cat [mdW cyI A ((M.1, M.2.1, M.2.2.1, M.2.2.2.1, M.2.2.2.2.1, M.2.2.2.2.2.1, M.2.2.2.2.2.2.1, M.2.2.2.2.2.2.2.1, M.2.2.2.2.2.2.2.2.1, M.2.2.2.2.2.2.2.2.2.1, (mAt M.2.2.2.2.1 M.2.2.2.2.2.1 k), mAt M.2.2.2.2.1 M.2.2.2.2.2.1 (k + 1) - 48))]) := hD
    refine lv_istore_n (lv' := [(2, .int (rdR M.2.2.2.2.1 M.2.2.2.2.2.1 (k + 1) ((0 : Int32)) ((9 : Int32)))), (0, .ref (A 0)), (1, .int (nI (k)))]) hx hb dX6_readPart_130 rfl hl (by decide) rfl (fun ls hl => ?_)
    refine lv_iload_n hx hb dX6_readPart_131 rfl (lv_at hl 0 rfl) ?_
    refine lv_if_le (tgt := 176) hx hb dX6_readPart_132 (by decide) (fun c_132 => ?_) (fun c_132 => ?_)
    · refine lv_iload_n hx hb dX6_readPart_176 rfl (lv_at hl 0 rfl) ?_
      have hrp : rpF M.2.2.2.2.1 M.2.2.2.2.2.1 M.2.2.2.2.2.2.2.2.2.2.2 k = (rdR M.2.2.2.2.1 M.2.2.2.2.2.1 (k + 1) ((0 : Int32)) ((9 : Int32)), (mAt M.2.2.2.2.1 M.2.2.2.2.2.1 k), mAt M.2.2.2.2.1 M.2.2.2.2.2.1 (k + 1) - 48) := by first | (simp [rpF, c_13_45, c_132]; done) | (simp [rpF, hrd, c_13_45, c_132]; done)
      have hgo : cat [mdW cyI A ((M.1, M.2.1, M.2.2.1, M.2.2.2.1, M.2.2.2.2.1, M.2.2.2.2.2.1, M.2.2.2.2.2.2.1, M.2.2.2.2.2.2.2.1, M.2.2.2.2.2.2.2.2.1, M.2.2.2.2.2.2.2.2.2.1, (mAt M.2.2.2.2.1 M.2.2.2.2.2.1 k), mAt M.2.2.2.2.1 M.2.2.2.2.2.1 (k + 1) - 48))] = cat [mdW cyI A ((M.1, M.2.1, M.2.2.1, M.2.2.2.1, M.2.2.2.2.1, M.2.2.2.2.2.1, M.2.2.2.2.2.2.1, M.2.2.2.2.2.2.2.1, M.2.2.2.2.2.2.2.2.1, M.2.2.2.2.2.2.2.2.2.1, (rpF M.2.2.2.2.1 M.2.2.2.2.2.1 M.2.2.2.2.2.2.2.2.2.2.2 k).2.1, (rpF M.2.2.2.2.1 M.2.2.2.2.2.1 M.2.2.2.2.2.2.2.2.2.2.2 k).2.2))] := by rw [hrp]; try rfl
      rw [hgo] at hP hD
      have hP : va_P G vwCl (cat [mdW cyI A ((M.1, M.2.1, M.2.2.1, M.2.2.2.1, M.2.2.2.2.1, M.2.2.2.2.2.1, M.2.2.2.2.2.2.1, M.2.2.2.2.2.2.2.1, M.2.2.2.2.2.2.2.2.1, M.2.2.2.2.2.2.2.2.2.1, (rpF M.2.2.2.2.1 M.2.2.2.2.2.1 M.2.2.2.2.2.2.2.2.2.2.2 k).2.1, (rpF M.2.2.2.2.1 M.2.2.2.2.2.1 M.2.2.2.2.2.2.2.2.2.2.2 k).2.2))]) H := hP
      have hD : va_D A9 (cat [mdW cyI A ((M.1, M.2.1, M.2.2.1, M.2.2.2.1, M.2.2.2.2.1, M.2.2.2.2.2.1, M.2.2.2.2.2.2.1, M.2.2.2.2.2.2.2.1, M.2.2.2.2.2.2.2.2.1, M.2.2.2.2.2.2.2.2.2.1, (rpF M.2.2.2.2.1 M.2.2.2.2.2.1 M.2.2.2.2.2.2.2.2.2.2.2 k).2.1, (rpF M.2.2.2.2.1 M.2.2.2.2.2.1 M.2.2.2.2.2.2.2.2.2.2.2 k).2.2))]) := hD
      exact end_i hx hb hr hlocks hK hP hD hS (by rw [hrp]) dX6_readPart_177
    · have hrd : rdR M.2.2.2.2.1 M.2.2.2.2.2.1 (k + 1) 0 9 = nI (k + 1 + 1) := rd_pos (by omega) c_132
      rw [hrd] at hl
      have hl : lv_has ls 3 [(2, .int (nI (k + 1 + 1))), (0, .ref (A 0)), (1, .int (nI (k)))] := hl
      refine lv_aload_n hx hb dX6_readPart_135 rfl (lv_at hl 1 rfl) ?_
      refine va_get (v := .int (mAt M.2.2.2.2.1 M.2.2.2.2.2.1 (k + 1) - 48)) (C := RX6) (T := TX6) (N := 12) hx hb hts hinX6 hown hK hP 0 rfl rfl 11 (by decide) hf152 (fun _ h9 => h9) rfl dX6_readPart_136 ?_
      refine lv_iconst (v := (1 : Int32)) hx hb dX6_readPart_139 (by decide) ?_
      refine lv_icmp_ne (tgt := 176) hx hb dX6_readPart_140 (by decide) (fun c_140 => ?_) (fun c_140 => ?_)
      · refine lv_iload_n hx hb dX6_readPart_176 rfl (lv_at hl 0 rfl) ?_
        have hrp : rpF M.2.2.2.2.1 M.2.2.2.2.2.1 M.2.2.2.2.2.2.2.2.2.2.2 k = (nI (k + 1 + 1), (mAt M.2.2.2.2.1 M.2.2.2.2.2.1 k), mAt M.2.2.2.2.1 M.2.2.2.2.2.1 (k + 1) - 48) := by first | (simp [rpF, c_13_45, c_132, c_140]; done) | (simp [rpF, hrd, c_13_45, c_132, c_140]; done)
        have hgo : cat [mdW cyI A ((M.1, M.2.1, M.2.2.1, M.2.2.2.1, M.2.2.2.2.1, M.2.2.2.2.2.1, M.2.2.2.2.2.2.1, M.2.2.2.2.2.2.2.1, M.2.2.2.2.2.2.2.2.1, M.2.2.2.2.2.2.2.2.2.1, (mAt M.2.2.2.2.1 M.2.2.2.2.2.1 k), mAt M.2.2.2.2.1 M.2.2.2.2.2.1 (k + 1) - 48))] = cat [mdW cyI A ((M.1, M.2.1, M.2.2.1, M.2.2.2.1, M.2.2.2.2.1, M.2.2.2.2.2.1, M.2.2.2.2.2.2.1, M.2.2.2.2.2.2.2.1, M.2.2.2.2.2.2.2.2.1, M.2.2.2.2.2.2.2.2.2.1, (rpF M.2.2.2.2.1 M.2.2.2.2.2.1 M.2.2.2.2.2.2.2.2.2.2.2 k).2.1, (rpF M.2.2.2.2.1 M.2.2.2.2.2.1 M.2.2.2.2.2.2.2.2.2.2.2 k).2.2))] := by rw [hrp]; try rfl
        rw [hgo] at hP hD
        have hP : va_P G vwCl (cat [mdW cyI A ((M.1, M.2.1, M.2.2.1, M.2.2.2.1, M.2.2.2.2.1, M.2.2.2.2.2.1, M.2.2.2.2.2.2.1, M.2.2.2.2.2.2.2.1, M.2.2.2.2.2.2.2.2.1, M.2.2.2.2.2.2.2.2.2.1, (rpF M.2.2.2.2.1 M.2.2.2.2.2.1 M.2.2.2.2.2.2.2.2.2.2.2 k).2.1, (rpF M.2.2.2.2.1 M.2.2.2.2.2.1 M.2.2.2.2.2.2.2.2.2.2.2 k).2.2))]) H := hP
        have hD : va_D A9 (cat [mdW cyI A ((M.1, M.2.1, M.2.2.1, M.2.2.2.1, M.2.2.2.2.1, M.2.2.2.2.2.1, M.2.2.2.2.2.2.1, M.2.2.2.2.2.2.2.1, M.2.2.2.2.2.2.2.2.1, M.2.2.2.2.2.2.2.2.2.1, (rpF M.2.2.2.2.1 M.2.2.2.2.2.1 M.2.2.2.2.2.2.2.2.2.2.2 k).2.1, (rpF M.2.2.2.2.1 M.2.2.2.2.2.1 M.2.2.2.2.2.2.2.2.2.2.2 k).2.2))]) := hD
        exact end_i hx hb hr hlocks hK hP hD hS (by rw [hrp]) dX6_readPart_177
      · refine lv_aload_n hx hb dX6_readPart_143 rfl (lv_at hl 1 rfl) ?_
        refine lv_iload_n hx hb dX6_readPart_144 rfl (lv_at hl 0 rfl) ?_
        refine gVi (gs := [mdW cyI A ((M.1, M.2.1, M.2.2.1, M.2.2.2.1, M.2.2.2.2.1, M.2.2.2.2.2.1, M.2.2.2.2.2.2.1, M.2.2.2.2.2.2.2.1, M.2.2.2.2.2.2.2.2.1, M.2.2.2.2.2.2.2.2.2.1, (mAt M.2.2.2.2.1 M.2.2.2.2.2.1 k), mAt M.2.2.2.2.1 M.2.2.2.2.2.1 (k + 1) - 48))]) (As := [.int (nI (k + 1 + 1))]) (rest := []) ⟨hx, hb, hml, hown, hts⟩ (c_X6_at l G cyI cyO A ((M.1, M.2.1, M.2.2.1, M.2.2.2.1, M.2.2.2.2.1, M.2.2.2.2.2.1, M.2.2.2.2.2.2.1, M.2.2.2.2.2.2.2.1, M.2.2.2.2.2.2.2.2.1, M.2.2.2.2.2.2.2.2.2.1, (mAt M.2.2.2.2.1 M.2.2.2.2.2.1 k), mAt M.2.2.2.2.1 M.2.2.2.2.2.1 (k + 1) - 48)) (k + 1 + 1) hln (by omega)) (cwV 1 hts gX6_readPart_X6_at rfl rfl rfl (by decide +kernel) ⟨Nat.le_of_ble_eq_true rfl, Nat.le_of_ble_eq_true rfl⟩) hK hP hD hS hA [0] rfl rfl rfl 0 6 rfl rfl rfl hl.1 rfl (Nat.le_of_ble_eq_true rfl) dX6_readPart_145 ⟨Nat.le_refl _, Nat.le_refl _⟩ (fun H locs hP hD hS => ?_)
        have hP : va_P G vwCl (cat [mdW cyI A ((M.1, M.2.1, M.2.2.1, M.2.2.2.1, M.2.2.2.2.1, M.2.2.2.2.2.1, M.2.2.2.2.2.2.1, M.2.2.2.2.2.2.2.1, M.2.2.2.2.2.2.2.2.1, M.2.2.2.2.2.2.2.2.2.1, (mAt M.2.2.2.2.1 M.2.2.2.2.2.1 k), mAt M.2.2.2.2.1 M.2.2.2.2.2.1 (k + 1) - 48))]) H := hP
        have hD : va_D A9 (cat [mdW cyI A ((M.1, M.2.1, M.2.2.1, M.2.2.2.1, M.2.2.2.2.1, M.2.2.2.2.2.1, M.2.2.2.2.2.2.1, M.2.2.2.2.2.2.2.1, M.2.2.2.2.2.2.2.2.1, M.2.2.2.2.2.2.2.2.2.1, (mAt M.2.2.2.2.1 M.2.2.2.2.2.1 k), mAt M.2.2.2.2.1 M.2.2.2.2.2.1 (k + 1) - 48))]) := hD
        refine lv_bipush (v := (48 : Int32)) hx hb dX6_readPart_148 (by decide) ?_
        refine lv_bipush (v := (57 : Int32)) hx hb dX6_readPart_150 (by decide) ?_
        refine gSi (gs := [mdW cyI A ((M.1, M.2.1, M.2.2.1, M.2.2.2.1, M.2.2.2.2.1, M.2.2.2.2.2.1, M.2.2.2.2.2.2.1, M.2.2.2.2.2.2.2.1, M.2.2.2.2.2.2.2.2.1, M.2.2.2.2.2.2.2.2.2.1, (mAt M.2.2.2.2.1 M.2.2.2.2.2.1 k), mAt M.2.2.2.2.1 M.2.2.2.2.2.1 (k + 1) - 48))]) (As := [.int (mAt M.2.2.2.2.1 M.2.2.2.2.2.1 (k + 1 + 1)), .int ((48 : Int32)), .int ((57 : Int32))]) (rest := []) ⟨hx, hb, hml, hown, hts⟩ (c_X6_in l G cyI cyO (mAt M.2.2.2.2.1 M.2.2.2.2.2.1 (k + 1 + 1)) ((48 : Int32)) ((57 : Int32))) (va_cwS 3 hts gX6_readPart_X6_in rfl rfl rfl (by decide +kernel) ⟨Nat.le_of_ble_eq_true rfl, Nat.le_of_ble_eq_true rfl⟩) hK hP hD hS hA [] rfl rfl rfl rfl hl.1 rfl (Nat.le_of_ble_eq_true rfl) dX6_readPart_152 ⟨Nat.le_refl _, Nat.le_refl _⟩ (fun H locs hP hD hS => ?_)
        have hP : va_P G vwCl (cat [mdW cyI A ((M.1, M.2.1, M.2.2.1, M.2.2.2.1, M.2.2.2.2.1, M.2.2.2.2.2.1, M.2.2.2.2.2.2.1, M.2.2.2.2.2.2.2.1, M.2.2.2.2.2.2.2.2.1, M.2.2.2.2.2.2.2.2.2.1, (mAt M.2.2.2.2.1 M.2.2.2.2.2.1 k), mAt M.2.2.2.2.1 M.2.2.2.2.2.1 (k + 1) - 48))]) H := hP
        have hD : va_D A9 (cat [mdW cyI A ((M.1, M.2.1, M.2.2.1, M.2.2.2.1, M.2.2.2.2.1, M.2.2.2.2.2.1, M.2.2.2.2.2.2.1, M.2.2.2.2.2.2.2.1, M.2.2.2.2.2.2.2.2.1, M.2.2.2.2.2.2.2.2.2.1, (mAt M.2.2.2.2.1 M.2.2.2.2.2.1 k), mAt M.2.2.2.2.1 M.2.2.2.2.2.1 (k + 1) - 48))]) := hD
        refine lv_if_eq (tgt := 176) hx hb dX6_readPart_155 (by decide) (fun c_155 => ?_) (fun c_155 => ?_)
        · have c_155 : (isDig (mAt M.2.2.2.2.1 M.2.2.2.2.2.1 (k + 1 + 1)) ((48 : Int32)) ((57 : Int32))) = false := bI_z.mp c_155
          refine lv_iload_n hx hb dX6_readPart_176 rfl (lv_at hl 0 rfl) ?_
          have hrp : rpF M.2.2.2.2.1 M.2.2.2.2.2.1 M.2.2.2.2.2.2.2.2.2.2.2 k = (nI (k + 1 + 1), (mAt M.2.2.2.2.1 M.2.2.2.2.2.1 k), mAt M.2.2.2.2.1 M.2.2.2.2.2.1 (k + 1) - 48) := by first | (simp [rpF, c_13_45, c_132, c_140, c_155]; done) | (simp [rpF, hrd, c_13_45, c_132, c_140, c_155]; done)
          have hgo : cat [mdW cyI A ((M.1, M.2.1, M.2.2.1, M.2.2.2.1, M.2.2.2.2.1, M.2.2.2.2.2.1, M.2.2.2.2.2.2.1, M.2.2.2.2.2.2.2.1, M.2.2.2.2.2.2.2.2.1, M.2.2.2.2.2.2.2.2.2.1, (mAt M.2.2.2.2.1 M.2.2.2.2.2.1 k), mAt M.2.2.2.2.1 M.2.2.2.2.2.1 (k + 1) - 48))] = cat [mdW cyI A ((M.1, M.2.1, M.2.2.1, M.2.2.2.1, M.2.2.2.2.1, M.2.2.2.2.2.1, M.2.2.2.2.2.2.1, M.2.2.2.2.2.2.2.1, M.2.2.2.2.2.2.2.2.1, M.2.2.2.2.2.2.2.2.2.1, (rpF M.2.2.2.2.1 M.2.2.2.2.2.1 M.2.2.2.2.2.2.2.2.2.2.2 k).2.1, (rpF M.2.2.2.2.1 M.2.2.2.2.2.1 M.2.2.2.2.2.2.2.2.2.2.2 k).2.2))] := by rw [hrp]; try rfl
          rw [hgo] at hP hD
          have hP : va_P G vwCl (cat [mdW cyI A ((M.1, M.2.1, M.2.2.1, M.2.2.2.1, M.2.2.2.2.1, M.2.2.2.2.2.1, M.2.2.2.2.2.2.1, M.2.2.2.2.2.2.2.1, M.2.2.2.2.2.2.2.2.1, M.2.2.2.2.2.2.2.2.2.1, (rpF M.2.2.2.2.1 M.2.2.2.2.2.1 M.2.2.2.2.2.2.2.2.2.2.2 k).2.1, (rpF M.2.2.2.2.1 M.2.2.2.2.2.1 M.2.2.2.2.2.2.2.2.2.2.2 k).2.2))]) H := hP
          have hD : va_D A9 (cat [mdW cyI A ((M.1, M.2.1, M.2.2.1, M.2.2.2.1, M.2.2.2.2.1, M.2.2.2.2.2.1, M.2.2.2.2.2.2.1, M.2.2.2.2.2.2.2.1, M.2.2.2.2.2.2.2.2.1, M.2.2.2.2.2.2.2.2.2.1, (rpF M.2.2.2.2.1 M.2.2.2.2.2.1 M.2.2.2.2.2.2.2.2.2.2.2 k).2.1, (rpF M.2.2.2.2.1 M.2.2.2.2.2.1 M.2.2.2.2.2.2.2.2.2.2.2 k).2.2))]) := hD
          exact end_i hx hb hr hlocks hK hP hD hS (by rw [hrp]) dX6_readPart_177
        · have c_155 : (isDig (mAt M.2.2.2.2.1 M.2.2.2.2.2.1 (k + 1 + 1)) ((48 : Int32)) ((57 : Int32))) = true := bI_nz.mp c_155
          refine lv_aload_n hx hb dX6_readPart_158 rfl (lv_at hl 1 rfl) ?_
          refine lv_bipush (v := (10 : Int32)) hx hb dX6_readPart_159 (by decide) ?_
          refine lv_aload_n hx hb dX6_readPart_161 rfl (lv_at hl 1 rfl) ?_
          refine lv_iload_n hx hb dX6_readPart_162 rfl (lv_at hl 0 rfl) ?_
          refine gVi (gs := [mdW cyI A ((M.1, M.2.1, M.2.2.1, M.2.2.2.1, M.2.2.2.2.1, M.2.2.2.2.2.1, M.2.2.2.2.2.2.1, M.2.2.2.2.2.2.2.1, M.2.2.2.2.2.2.2.2.1, M.2.2.2.2.2.2.2.2.2.1, (mAt M.2.2.2.2.1 M.2.2.2.2.2.1 k), mAt M.2.2.2.2.1 M.2.2.2.2.2.1 (k + 1) - 48))]) (As := [.int (nI (k + 1 + 1))]) (rest := [.int ((10 : Int32)), .ref (A 0)]) ⟨hx, hb, hml, hown, hts⟩ (c_X6_at l G cyI cyO A ((M.1, M.2.1, M.2.2.1, M.2.2.2.1, M.2.2.2.2.1, M.2.2.2.2.2.1, M.2.2.2.2.2.2.1, M.2.2.2.2.2.2.2.1, M.2.2.2.2.2.2.2.2.1, M.2.2.2.2.2.2.2.2.2.1, (mAt M.2.2.2.2.1 M.2.2.2.2.2.1 k), mAt M.2.2.2.2.1 M.2.2.2.2.2.1 (k + 1) - 48)) (k + 1 + 1) hln (by omega)) (cwV 1 hts gX6_readPart_X6_at rfl rfl rfl (by decide +kernel) ⟨Nat.le_of_ble_eq_true rfl, Nat.le_of_ble_eq_true rfl⟩) hK hP hD hS hA [0] rfl rfl rfl 0 6 rfl rfl rfl hl.1 rfl (Nat.le_of_ble_eq_true rfl) dX6_readPart_163 ⟨Nat.le_refl _, Nat.le_refl _⟩ (fun H locs hP hD hS => ?_)
          have hP : va_P G vwCl (cat [mdW cyI A ((M.1, M.2.1, M.2.2.1, M.2.2.2.1, M.2.2.2.2.1, M.2.2.2.2.2.1, M.2.2.2.2.2.2.1, M.2.2.2.2.2.2.2.1, M.2.2.2.2.2.2.2.2.1, M.2.2.2.2.2.2.2.2.2.1, (mAt M.2.2.2.2.1 M.2.2.2.2.2.1 k), mAt M.2.2.2.2.1 M.2.2.2.2.2.1 (k + 1) - 48))]) H := hP
          have hD : va_D A9 (cat [mdW cyI A ((M.1, M.2.1, M.2.2.1, M.2.2.2.1, M.2.2.2.2.1, M.2.2.2.2.2.1, M.2.2.2.2.2.2.1, M.2.2.2.2.2.2.2.1, M.2.2.2.2.2.2.2.2.1, M.2.2.2.2.2.2.2.2.2.1, (mAt M.2.2.2.2.1 M.2.2.2.2.2.1 k), mAt M.2.2.2.2.1 M.2.2.2.2.2.1 (k + 1) - 48))]) := hD
          refine lv_iadd hx hb dX6_readPart_166 ?_
          refine lv_bipush (v := (48 : Int32)) hx hb dX6_readPart_167 (by decide) ?_
          refine lv_isub hx hb dX6_readPart_169 ?_
          have hP : va_P G vwCl (cat [[(A 0, .inr (6, [.int (M.1), .ref (A 1), .ref (A 2), .int (nI (M.2.2.2.1)), .ref (A 3), .int (nI (M.2.2.2.2.2.1)), .ref (A 4), .ref (A 5), .ref (A 6), .ref (A 7), .int ((mAt M.2.2.2.2.1 M.2.2.2.2.2.1 k)), .int (mAt M.2.2.2.2.1 M.2.2.2.2.2.1 (k + 1) - 48)]))], [(A 1, .inl (cyI, 91, .inl (M.2.1)))], [(A 2, .inl (cyI, 546, .inl (M.2.2.1)))], [(A 3, .inl (cyI, 60, .inl (M.2.2.2.2.1)))], [(A 4, .inl (cyI, 20, .inl (M.2.2.2.2.2.2.1)))], [(A 5, .inl (cyI, 6, .inl (M.2.2.2.2.2.2.2.1)))], [(A 6, .inl (cyI, 6, .inl (M.2.2.2.2.2.2.2.2.1)))], [(A 7, .inl (cyI, 6, .inl (M.2.2.2.2.2.2.2.2.2.1)))]]) H := hP
          have hD : va_D A9 (cat [[(A 0, .inr (6, [.int (M.1), .ref (A 1), .ref (A 2), .int (nI (M.2.2.2.1)), .ref (A 3), .int (nI (M.2.2.2.2.2.1)), .ref (A 4), .ref (A 5), .ref (A 6), .ref (A 7), .int ((mAt M.2.2.2.2.1 M.2.2.2.2.2.1 k)), .int (mAt M.2.2.2.2.1 M.2.2.2.2.2.1 (k + 1) - 48)]))], [(A 1, .inl (cyI, 91, .inl (M.2.1)))], [(A 2, .inl (cyI, 546, .inl (M.2.2.1)))], [(A 3, .inl (cyI, 60, .inl (M.2.2.2.2.1)))], [(A 4, .inl (cyI, 20, .inl (M.2.2.2.2.2.2.1)))], [(A 5, .inl (cyI, 6, .inl (M.2.2.2.2.2.2.2.1)))], [(A 6, .inl (cyI, 6, .inl (M.2.2.2.2.2.2.2.2.1)))], [(A 7, .inl (cyI, 6, .inl (M.2.2.2.2.2.2.2.2.2.1)))]]) := hD
          refine va_put (v := .int ((((10 : Int32)) + (mAt M.2.2.2.2.1 M.2.2.2.2.2.1 (k + 1 + 1))) - ((48 : Int32)))) (ty := .int) (C := RX6) (T := TX6) (N := 12) hx hb hts hinX6 tyX6 tyX6_ok nmX6 hown hK hP hD hS 0 rfl rfl 11 (by decide) hf152 (fun _ h9 => h9) rfl (by first | rfl | decide +kernel) rfl rfl (Nat.le_of_ble_eq_true rfl) dX6_readPart_170 (fun H locs hP hD hS => ?_)
          have hP : va_P G vwCl (cat [[(A 0, .inr (6, [.int (M.1), .ref (A 1), .ref (A 2), .int (nI (M.2.2.2.1)), .ref (A 3), .int (nI (M.2.2.2.2.2.1)), .ref (A 4), .ref (A 5), .ref (A 6), .ref (A 7), .int ((mAt M.2.2.2.2.1 M.2.2.2.2.2.1 k)), .int ((((10 : Int32)) + (mAt M.2.2.2.2.1 M.2.2.2.2.2.1 (k + 1 + 1))) - ((48 : Int32)))]))], [(A 1, .inl (cyI, 91, .inl (M.2.1)))], [(A 2, .inl (cyI, 546, .inl (M.2.2.1)))], [(A 3, .inl (cyI, 60, .inl (M.2.2.2.2.1)))], [(A 4, .inl (cyI, 20, .inl (M.2.2.2.2.2.2.1)))], [(A 5, .inl (cyI, 6, .inl (M.2.2.2.2.2.2.2.1)))], [(A 6, .inl (cyI, 6, .inl (M.2.2.2.2.2.2.2.2.1)))], [(A 7, .inl (cyI, 6, .inl (M.2.2.2.2.2.2.2.2.2.1)))]]) H := hP
          have hD : va_D A9 (cat [[(A 0, .inr (6, [.int (M.1), .ref (A 1), .ref (A 2), .int (nI (M.2.2.2.1)), .ref (A 3), .int (nI (M.2.2.2.2.2.1)), .ref (A 4), .ref (A 5), .ref (A 6), .ref (A 7), .int ((mAt M.2.2.2.2.1 M.2.2.2.2.2.1 k)), .int ((((10 : Int32)) + (mAt M.2.2.2.2.1 M.2.2.2.2.2.1 (k + 1 + 1))) - ((48 : Int32)))]))], [(A 1, .inl (cyI, 91, .inl (M.2.1)))], [(A 2, .inl (cyI, 546, .inl (M.2.2.1)))], [(A 3, .inl (cyI, 60, .inl (M.2.2.2.2.1)))], [(A 4, .inl (cyI, 20, .inl (M.2.2.2.2.2.2.1)))], [(A 5, .inl (cyI, 6, .inl (M.2.2.2.2.2.2.2.1)))], [(A 6, .inl (cyI, 6, .inl (M.2.2.2.2.2.2.2.2.1)))], [(A 7, .inl (cyI, 6, .inl (M.2.2.2.2.2.2.2.2.2.1)))]]) := hD
          refine lv_iinc (v := nI (k + 1 + 1 + 1)) (lv' := [(2, .int (nI (k + 1 + 1 + 1))), (0, .ref (A 0)), (1, .int (nI (k)))]) hx hb dX6_readPart_173 hl (k := 0) rfl (nI_add _ _) (by decide) rfl (fun ls hl => ?_)
          refine lv_iload_n hx hb dX6_readPart_176 rfl (lv_at hl 0 rfl) ?_
          have hrp : rpF M.2.2.2.2.1 M.2.2.2.2.2.1 M.2.2.2.2.2.2.2.2.2.2.2 k = (nI (k + 1 + 1 + 1), (mAt M.2.2.2.2.1 M.2.2.2.2.2.1 k), (((10 : Int32)) + (mAt M.2.2.2.2.1 M.2.2.2.2.2.1 (k + 1 + 1))) - ((48 : Int32))) := by first | (simp [rpF, c_13_45, c_132, c_140, c_155]; done) | (simp [rpF, hrd, c_13_45, c_132, c_140, c_155]; done)
          have hgo : cat [[(A 0, .inr (6, [.int (M.1), .ref (A 1), .ref (A 2), .int (nI (M.2.2.2.1)), .ref (A 3), .int (nI (M.2.2.2.2.2.1)), .ref (A 4), .ref (A 5), .ref (A 6), .ref (A 7), .int ((mAt M.2.2.2.2.1 M.2.2.2.2.2.1 k)), .int ((((10 : Int32)) + (mAt M.2.2.2.2.1 M.2.2.2.2.2.1 (k + 1 + 1))) - ((48 : Int32)))]))], [(A 1, .inl (cyI, 91, .inl (M.2.1)))], [(A 2, .inl (cyI, 546, .inl (M.2.2.1)))], [(A 3, .inl (cyI, 60, .inl (M.2.2.2.2.1)))], [(A 4, .inl (cyI, 20, .inl (M.2.2.2.2.2.2.1)))], [(A 5, .inl (cyI, 6, .inl (M.2.2.2.2.2.2.2.1)))], [(A 6, .inl (cyI, 6, .inl (M.2.2.2.2.2.2.2.2.1)))], [(A 7, .inl (cyI, 6, .inl (M.2.2.2.2.2.2.2.2.2.1)))]] = cat [mdW cyI A ((M.1, M.2.1, M.2.2.1, M.2.2.2.1, M.2.2.2.2.1, M.2.2.2.2.2.1, M.2.2.2.2.2.2.1, M.2.2.2.2.2.2.2.1, M.2.2.2.2.2.2.2.2.1, M.2.2.2.2.2.2.2.2.2.1, (rpF M.2.2.2.2.1 M.2.2.2.2.2.1 M.2.2.2.2.2.2.2.2.2.2.2 k).2.1, (rpF M.2.2.2.2.1 M.2.2.2.2.2.1 M.2.2.2.2.2.2.2.2.2.2.2 k).2.2))] := by rw [hrp]; try rfl
          rw [hgo] at hP hD
          have hP : va_P G vwCl (cat [mdW cyI A ((M.1, M.2.1, M.2.2.1, M.2.2.2.1, M.2.2.2.2.1, M.2.2.2.2.2.1, M.2.2.2.2.2.2.1, M.2.2.2.2.2.2.2.1, M.2.2.2.2.2.2.2.2.1, M.2.2.2.2.2.2.2.2.2.1, (rpF M.2.2.2.2.1 M.2.2.2.2.2.1 M.2.2.2.2.2.2.2.2.2.2.2 k).2.1, (rpF M.2.2.2.2.1 M.2.2.2.2.2.1 M.2.2.2.2.2.2.2.2.2.2.2 k).2.2))]) H := hP
          have hD : va_D A9 (cat [mdW cyI A ((M.1, M.2.1, M.2.2.1, M.2.2.2.1, M.2.2.2.2.1, M.2.2.2.2.2.1, M.2.2.2.2.2.2.1, M.2.2.2.2.2.2.2.1, M.2.2.2.2.2.2.2.2.1, M.2.2.2.2.2.2.2.2.2.1, (rpF M.2.2.2.2.1 M.2.2.2.2.2.1 M.2.2.2.2.2.2.2.2.2.2.2 k).2.1, (rpF M.2.2.2.2.1 M.2.2.2.2.2.1 M.2.2.2.2.2.2.2.2.2.2.2 k).2.2))]) := hD
          exact end_i hx hb hr hlocks hK hP hD hS (by rw [hrp]) dX6_readPart_177
  by_cases c_13_99 : mAt M.2.2.2.2.1 M.2.2.2.2.2.1 k = (99 : Int32)
  · refine lv_lookup (tgt := 99) (off := 86) hx hb dX6_readPart_13 (by decide) (by rw [c_13_99]; rfl) (by decide) ?_
    refine lv_aload_n hx hb dX6_readPart_99 rfl (lv_at hl 0 rfl) ?_
    refine lv_iload_n hx hb dX6_readPart_100 rfl (lv_at hl 1 rfl) ?_
    refine lv_iconst (v := (1 : Int32)) hx hb dX6_readPart_101 (by decide) ?_
    refine lv_iadd hx hb dX6_readPart_102 ?_
    refine top_i (x' := nI (k + 1)) (nI_add (k) (1)) ?_
    refine lv_iconst (v := (0 : Int32)) hx hb dX6_readPart_103 (by decide) ?_
    refine lv_iconst (v := (5 : Int32)) hx hb dX6_readPart_104 (by decide) ?_
    have hP : va_P G vwCl (cat [mdW cyI A ((M.1, M.2.1, M.2.2.1, M.2.2.2.1, M.2.2.2.2.1, M.2.2.2.2.2.1, M.2.2.2.2.2.2.1, M.2.2.2.2.2.2.2.1, M.2.2.2.2.2.2.2.2.1, M.2.2.2.2.2.2.2.2.2.1, mAt M.2.2.2.2.1 M.2.2.2.2.2.1 k, M.2.2.2.2.2.2.2.2.2.2.2))]) H := hP
    have hD : va_D A9 (cat [mdW cyI A ((M.1, M.2.1, M.2.2.1, M.2.2.2.1, M.2.2.2.2.1, M.2.2.2.2.2.1, M.2.2.2.2.2.2.1, M.2.2.2.2.2.2.2.1, M.2.2.2.2.2.2.2.2.1, M.2.2.2.2.2.2.2.2.2.1, mAt M.2.2.2.2.1 M.2.2.2.2.2.1 k, M.2.2.2.2.2.2.2.2.2.2.2))]) := hD
    refine gVi (gs := [mdW cyI A ((M.1, M.2.1, M.2.2.1, M.2.2.2.1, M.2.2.2.2.1, M.2.2.2.2.2.1, M.2.2.2.2.2.2.1, M.2.2.2.2.2.2.2.1, M.2.2.2.2.2.2.2.2.1, M.2.2.2.2.2.2.2.2.2.1, mAt M.2.2.2.2.1 M.2.2.2.2.2.1 k, M.2.2.2.2.2.2.2.2.2.2.2))]) (As := [.int (nI (k + 1)), .int ((0 : Int32)), .int ((5 : Int32))]) (rest := []) ⟨hx, hb, hml, hown, hts⟩ (c_X6_readDigit l G cyI cyO A ((M.1, M.2.1, M.2.2.1, M.2.2.2.1, M.2.2.2.2.1, M.2.2.2.2.2.1, M.2.2.2.2.2.2.1, M.2.2.2.2.2.2.2.1, M.2.2.2.2.2.2.2.2.1, M.2.2.2.2.2.2.2.2.2.1, mAt M.2.2.2.2.1 M.2.2.2.2.2.1 k, M.2.2.2.2.2.2.2.2.2.2.2)) (k + 1) ((0 : Int32)) ((5 : Int32)) hln (by omega)) (cwV 3 hts gX6_readPart_X6_readDigit rfl rfl rfl (by decide +kernel) ⟨Nat.le_of_ble_eq_true rfl, Nat.le_of_ble_eq_true rfl⟩) hK hP hD hS hA [0] rfl rfl rfl 0 6 rfl rfl rfl hl.1 rfl (Nat.le_of_ble_eq_true rfl) dX6_readPart_105 ⟨Nat.le_refl _, Nat.le_refl _⟩ (fun H locs hP hD hS => ?_)
    have hP : va_P G vwCl (cat [mdW cyI A ((M.1, M.2.1, M.2.2.1, M.2.2.2.1, M.2.2.2.2.1, M.2.2.2.2.2.1, M.2.2.2.2.2.2.1, M.2.2.2.2.2.2.2.1, M.2.2.2.2.2.2.2.2.1, M.2.2.2.2.2.2.2.2.2.1, (mAt M.2.2.2.2.1 M.2.2.2.2.2.1 k), mAt M.2.2.2.2.1 M.2.2.2.2.2.1 (k + 1) - 48))]) H := hP
    have hD : va_D A9 (cat [mdW cyI A ((M.1, M.2.1, M.2.2.1, M.2.2.2.1, M.2.2.2.2.1, M.2.2.2.2.2.1, M.2.2.2.2.2.2.1, M.2.2.2.2.2.2.2.1, M.2.2.2.2.2.2.2.2.1, M.2.2.2.2.2.2.2.2.2.1, (mAt M.2.2.2.2.1 M.2.2.2.2.2.1 k), mAt M.2.2.2.2.1 M.2.2.2.2.2.1 (k + 1) - 48))]) := hD
    have hrp : rpF M.2.2.2.2.1 M.2.2.2.2.2.1 M.2.2.2.2.2.2.2.2.2.2.2 k = (rdR M.2.2.2.2.1 M.2.2.2.2.2.1 (k + 1) ((0 : Int32)) ((5 : Int32)), (mAt M.2.2.2.2.1 M.2.2.2.2.2.1 k), mAt M.2.2.2.2.1 M.2.2.2.2.2.1 (k + 1) - 48) := by first | (simp [rpF, c_13_99]; done) | (simp [rpF, hrd, c_13_99]; done)
    have hgo : cat [mdW cyI A ((M.1, M.2.1, M.2.2.1, M.2.2.2.1, M.2.2.2.2.1, M.2.2.2.2.2.1, M.2.2.2.2.2.2.1, M.2.2.2.2.2.2.2.1, M.2.2.2.2.2.2.2.2.1, M.2.2.2.2.2.2.2.2.2.1, (mAt M.2.2.2.2.1 M.2.2.2.2.2.1 k), mAt M.2.2.2.2.1 M.2.2.2.2.2.1 (k + 1) - 48))] = cat [mdW cyI A ((M.1, M.2.1, M.2.2.1, M.2.2.2.1, M.2.2.2.2.1, M.2.2.2.2.2.1, M.2.2.2.2.2.2.1, M.2.2.2.2.2.2.2.1, M.2.2.2.2.2.2.2.2.1, M.2.2.2.2.2.2.2.2.2.1, (rpF M.2.2.2.2.1 M.2.2.2.2.2.1 M.2.2.2.2.2.2.2.2.2.2.2 k).2.1, (rpF M.2.2.2.2.1 M.2.2.2.2.2.1 M.2.2.2.2.2.2.2.2.2.2.2 k).2.2))] := by rw [hrp]; try rfl
    rw [hgo] at hP hD
    have hP : va_P G vwCl (cat [mdW cyI A ((M.1, M.2.1, M.2.2.1, M.2.2.2.1, M.2.2.2.2.1, M.2.2.2.2.2.1, M.2.2.2.2.2.2.1, M.2.2.2.2.2.2.2.1, M.2.2.2.2.2.2.2.2.1, M.2.2.2.2.2.2.2.2.2.1, (rpF M.2.2.2.2.1 M.2.2.2.2.2.1 M.2.2.2.2.2.2.2.2.2.2.2 k).2.1, (rpF M.2.2.2.2.1 M.2.2.2.2.2.1 M.2.2.2.2.2.2.2.2.2.2.2 k).2.2))]) H := hP
    have hD : va_D A9 (cat [mdW cyI A ((M.1, M.2.1, M.2.2.1, M.2.2.2.1, M.2.2.2.2.1, M.2.2.2.2.2.1, M.2.2.2.2.2.2.1, M.2.2.2.2.2.2.2.1, M.2.2.2.2.2.2.2.2.1, M.2.2.2.2.2.2.2.2.2.1, (rpF M.2.2.2.2.1 M.2.2.2.2.2.1 M.2.2.2.2.2.2.2.2.2.2.2 k).2.1, (rpF M.2.2.2.2.1 M.2.2.2.2.2.1 M.2.2.2.2.2.2.2.2.2.2.2 k).2.2))]) := hD
    exact end_i hx hb hr hlocks hK hP hD hS (by rw [hrp]) dX6_readPart_108
  by_cases c_13_100 : mAt M.2.2.2.2.1 M.2.2.2.2.2.1 k = (100 : Int32)
  · refine lv_lookup (tgt := 109) (off := 96) hx hb dX6_readPart_13 (by decide) (by rw [c_13_100]; rfl) (by decide) ?_
    refine lv_iload_n hx hb dX6_readPart_109 rfl (lv_at hl 1 rfl) ?_
    refine lv_iconst (v := (1 : Int32)) hx hb dX6_readPart_110 (by decide) ?_
    refine lv_iadd hx hb dX6_readPart_111 ?_
    refine top_i (x' := nI (k + 1)) (nI_add (k) (1)) ?_
    have hrp : rpF M.2.2.2.2.1 M.2.2.2.2.2.1 M.2.2.2.2.2.2.2.2.2.2.2 k = (nI (k + 1), mAt M.2.2.2.2.1 M.2.2.2.2.2.1 k, M.2.2.2.2.2.2.2.2.2.2.2) := by first | (simp [rpF, c_13_100]; done) | (simp [rpF, hrd, c_13_100]; done)
    have hgo : cat [[(A 0, .inr (6, [.int (M.1), .ref (A 1), .ref (A 2), .int (nI (M.2.2.2.1)), .ref (A 3), .int (nI (M.2.2.2.2.2.1)), .ref (A 4), .ref (A 5), .ref (A 6), .ref (A 7), .int (mAt M.2.2.2.2.1 M.2.2.2.2.2.1 k), .int (M.2.2.2.2.2.2.2.2.2.2.2)]))], [(A 1, .inl (cyI, 91, .inl (M.2.1)))], [(A 2, .inl (cyI, 546, .inl (M.2.2.1)))], [(A 3, .inl (cyI, 60, .inl (M.2.2.2.2.1)))], [(A 4, .inl (cyI, 20, .inl (M.2.2.2.2.2.2.1)))], [(A 5, .inl (cyI, 6, .inl (M.2.2.2.2.2.2.2.1)))], [(A 6, .inl (cyI, 6, .inl (M.2.2.2.2.2.2.2.2.1)))], [(A 7, .inl (cyI, 6, .inl (M.2.2.2.2.2.2.2.2.2.1)))]] = cat [mdW cyI A ((M.1, M.2.1, M.2.2.1, M.2.2.2.1, M.2.2.2.2.1, M.2.2.2.2.2.1, M.2.2.2.2.2.2.1, M.2.2.2.2.2.2.2.1, M.2.2.2.2.2.2.2.2.1, M.2.2.2.2.2.2.2.2.2.1, (rpF M.2.2.2.2.1 M.2.2.2.2.2.1 M.2.2.2.2.2.2.2.2.2.2.2 k).2.1, (rpF M.2.2.2.2.1 M.2.2.2.2.2.1 M.2.2.2.2.2.2.2.2.2.2.2 k).2.2))] := by rw [hrp]; try rfl
    rw [hgo] at hP hD
    have hP : va_P G vwCl (cat [mdW cyI A ((M.1, M.2.1, M.2.2.1, M.2.2.2.1, M.2.2.2.2.1, M.2.2.2.2.2.1, M.2.2.2.2.2.2.1, M.2.2.2.2.2.2.2.1, M.2.2.2.2.2.2.2.2.1, M.2.2.2.2.2.2.2.2.2.1, (rpF M.2.2.2.2.1 M.2.2.2.2.2.1 M.2.2.2.2.2.2.2.2.2.2.2 k).2.1, (rpF M.2.2.2.2.1 M.2.2.2.2.2.1 M.2.2.2.2.2.2.2.2.2.2.2 k).2.2))]) H := hP
    have hD : va_D A9 (cat [mdW cyI A ((M.1, M.2.1, M.2.2.1, M.2.2.2.1, M.2.2.2.2.1, M.2.2.2.2.2.1, M.2.2.2.2.2.2.1, M.2.2.2.2.2.2.2.1, M.2.2.2.2.2.2.2.2.1, M.2.2.2.2.2.2.2.2.2.1, (rpF M.2.2.2.2.1 M.2.2.2.2.2.1 M.2.2.2.2.2.2.2.2.2.2.2 k).2.1, (rpF M.2.2.2.2.1 M.2.2.2.2.2.1 M.2.2.2.2.2.2.2.2.2.2.2 k).2.2))]) := hD
    exact end_i hx hb hr hlocks hK hP hD hS (by rw [hrp]) dX6_readPart_112
  by_cases c_13_104 : mAt M.2.2.2.2.1 M.2.2.2.2.2.1 k = (104 : Int32)
  · refine lv_lookup (tgt := 109) (off := 96) hx hb dX6_readPart_13 (by decide) (by rw [c_13_104]; rfl) (by decide) ?_
    refine lv_iload_n hx hb dX6_readPart_109 rfl (lv_at hl 1 rfl) ?_
    refine lv_iconst (v := (1 : Int32)) hx hb dX6_readPart_110 (by decide) ?_
    refine lv_iadd hx hb dX6_readPart_111 ?_
    refine top_i (x' := nI (k + 1)) (nI_add (k) (1)) ?_
    have hrp : rpF M.2.2.2.2.1 M.2.2.2.2.2.1 M.2.2.2.2.2.2.2.2.2.2.2 k = (nI (k + 1), mAt M.2.2.2.2.1 M.2.2.2.2.2.1 k, M.2.2.2.2.2.2.2.2.2.2.2) := by first | (simp [rpF, c_13_104]; done) | (simp [rpF, hrd, c_13_104]; done)
    have hgo : cat [[(A 0, .inr (6, [.int (M.1), .ref (A 1), .ref (A 2), .int (nI (M.2.2.2.1)), .ref (A 3), .int (nI (M.2.2.2.2.2.1)), .ref (A 4), .ref (A 5), .ref (A 6), .ref (A 7), .int (mAt M.2.2.2.2.1 M.2.2.2.2.2.1 k), .int (M.2.2.2.2.2.2.2.2.2.2.2)]))], [(A 1, .inl (cyI, 91, .inl (M.2.1)))], [(A 2, .inl (cyI, 546, .inl (M.2.2.1)))], [(A 3, .inl (cyI, 60, .inl (M.2.2.2.2.1)))], [(A 4, .inl (cyI, 20, .inl (M.2.2.2.2.2.2.1)))], [(A 5, .inl (cyI, 6, .inl (M.2.2.2.2.2.2.2.1)))], [(A 6, .inl (cyI, 6, .inl (M.2.2.2.2.2.2.2.2.1)))], [(A 7, .inl (cyI, 6, .inl (M.2.2.2.2.2.2.2.2.2.1)))]] = cat [mdW cyI A ((M.1, M.2.1, M.2.2.1, M.2.2.2.1, M.2.2.2.2.1, M.2.2.2.2.2.1, M.2.2.2.2.2.2.1, M.2.2.2.2.2.2.2.1, M.2.2.2.2.2.2.2.2.1, M.2.2.2.2.2.2.2.2.2.1, (rpF M.2.2.2.2.1 M.2.2.2.2.2.1 M.2.2.2.2.2.2.2.2.2.2.2 k).2.1, (rpF M.2.2.2.2.1 M.2.2.2.2.2.1 M.2.2.2.2.2.2.2.2.2.2.2 k).2.2))] := by rw [hrp]; try rfl
    rw [hgo] at hP hD
    have hP : va_P G vwCl (cat [mdW cyI A ((M.1, M.2.1, M.2.2.1, M.2.2.2.1, M.2.2.2.2.1, M.2.2.2.2.2.1, M.2.2.2.2.2.2.1, M.2.2.2.2.2.2.2.1, M.2.2.2.2.2.2.2.2.1, M.2.2.2.2.2.2.2.2.2.1, (rpF M.2.2.2.2.1 M.2.2.2.2.2.1 M.2.2.2.2.2.2.2.2.2.2.2 k).2.1, (rpF M.2.2.2.2.1 M.2.2.2.2.2.1 M.2.2.2.2.2.2.2.2.2.2.2 k).2.2))]) H := hP
    have hD : va_D A9 (cat [mdW cyI A ((M.1, M.2.1, M.2.2.1, M.2.2.2.1, M.2.2.2.2.1, M.2.2.2.2.2.1, M.2.2.2.2.2.2.1, M.2.2.2.2.2.2.2.1, M.2.2.2.2.2.2.2.2.1, M.2.2.2.2.2.2.2.2.2.1, (rpF M.2.2.2.2.1 M.2.2.2.2.2.1 M.2.2.2.2.2.2.2.2.2.2.2 k).2.1, (rpF M.2.2.2.2.1 M.2.2.2.2.2.1 M.2.2.2.2.2.2.2.2.2.2.2 k).2.2))]) := hD
    exact end_i hx hb hr hlocks hK hP hD hS (by rw [hrp]) dX6_readPart_112
  by_cases c_13_108 : mAt M.2.2.2.2.1 M.2.2.2.2.2.1 k = (108 : Int32)
  · refine lv_lookup (tgt := 99) (off := 86) hx hb dX6_readPart_13 (by decide) (by rw [c_13_108]; rfl) (by decide) ?_
    refine lv_aload_n hx hb dX6_readPart_99 rfl (lv_at hl 0 rfl) ?_
    refine lv_iload_n hx hb dX6_readPart_100 rfl (lv_at hl 1 rfl) ?_
    refine lv_iconst (v := (1 : Int32)) hx hb dX6_readPart_101 (by decide) ?_
    refine lv_iadd hx hb dX6_readPart_102 ?_
    refine top_i (x' := nI (k + 1)) (nI_add (k) (1)) ?_
    refine lv_iconst (v := (0 : Int32)) hx hb dX6_readPart_103 (by decide) ?_
    refine lv_iconst (v := (5 : Int32)) hx hb dX6_readPart_104 (by decide) ?_
    have hP : va_P G vwCl (cat [mdW cyI A ((M.1, M.2.1, M.2.2.1, M.2.2.2.1, M.2.2.2.2.1, M.2.2.2.2.2.1, M.2.2.2.2.2.2.1, M.2.2.2.2.2.2.2.1, M.2.2.2.2.2.2.2.2.1, M.2.2.2.2.2.2.2.2.2.1, mAt M.2.2.2.2.1 M.2.2.2.2.2.1 k, M.2.2.2.2.2.2.2.2.2.2.2))]) H := hP
    have hD : va_D A9 (cat [mdW cyI A ((M.1, M.2.1, M.2.2.1, M.2.2.2.1, M.2.2.2.2.1, M.2.2.2.2.2.1, M.2.2.2.2.2.2.1, M.2.2.2.2.2.2.2.1, M.2.2.2.2.2.2.2.2.1, M.2.2.2.2.2.2.2.2.2.1, mAt M.2.2.2.2.1 M.2.2.2.2.2.1 k, M.2.2.2.2.2.2.2.2.2.2.2))]) := hD
    refine gVi (gs := [mdW cyI A ((M.1, M.2.1, M.2.2.1, M.2.2.2.1, M.2.2.2.2.1, M.2.2.2.2.2.1, M.2.2.2.2.2.2.1, M.2.2.2.2.2.2.2.1, M.2.2.2.2.2.2.2.2.1, M.2.2.2.2.2.2.2.2.2.1, mAt M.2.2.2.2.1 M.2.2.2.2.2.1 k, M.2.2.2.2.2.2.2.2.2.2.2))]) (As := [.int (nI (k + 1)), .int ((0 : Int32)), .int ((5 : Int32))]) (rest := []) ⟨hx, hb, hml, hown, hts⟩ (c_X6_readDigit l G cyI cyO A ((M.1, M.2.1, M.2.2.1, M.2.2.2.1, M.2.2.2.2.1, M.2.2.2.2.2.1, M.2.2.2.2.2.2.1, M.2.2.2.2.2.2.2.1, M.2.2.2.2.2.2.2.2.1, M.2.2.2.2.2.2.2.2.2.1, mAt M.2.2.2.2.1 M.2.2.2.2.2.1 k, M.2.2.2.2.2.2.2.2.2.2.2)) (k + 1) ((0 : Int32)) ((5 : Int32)) hln (by omega)) (cwV 3 hts gX6_readPart_X6_readDigit rfl rfl rfl (by decide +kernel) ⟨Nat.le_of_ble_eq_true rfl, Nat.le_of_ble_eq_true rfl⟩) hK hP hD hS hA [0] rfl rfl rfl 0 6 rfl rfl rfl hl.1 rfl (Nat.le_of_ble_eq_true rfl) dX6_readPart_105 ⟨Nat.le_refl _, Nat.le_refl _⟩ (fun H locs hP hD hS => ?_)
    have hP : va_P G vwCl (cat [mdW cyI A ((M.1, M.2.1, M.2.2.1, M.2.2.2.1, M.2.2.2.2.1, M.2.2.2.2.2.1, M.2.2.2.2.2.2.1, M.2.2.2.2.2.2.2.1, M.2.2.2.2.2.2.2.2.1, M.2.2.2.2.2.2.2.2.2.1, (mAt M.2.2.2.2.1 M.2.2.2.2.2.1 k), mAt M.2.2.2.2.1 M.2.2.2.2.2.1 (k + 1) - 48))]) H := hP
    have hD : va_D A9 (cat [mdW cyI A ((M.1, M.2.1, M.2.2.1, M.2.2.2.1, M.2.2.2.2.1, M.2.2.2.2.2.1, M.2.2.2.2.2.2.1, M.2.2.2.2.2.2.2.1, M.2.2.2.2.2.2.2.2.1, M.2.2.2.2.2.2.2.2.2.1, (mAt M.2.2.2.2.1 M.2.2.2.2.2.1 k), mAt M.2.2.2.2.1 M.2.2.2.2.2.1 (k + 1) - 48))]) := hD
    have hrp : rpF M.2.2.2.2.1 M.2.2.2.2.2.1 M.2.2.2.2.2.2.2.2.2.2.2 k = (rdR M.2.2.2.2.1 M.2.2.2.2.2.1 (k + 1) ((0 : Int32)) ((5 : Int32)), (mAt M.2.2.2.2.1 M.2.2.2.2.2.1 k), mAt M.2.2.2.2.1 M.2.2.2.2.2.1 (k + 1) - 48) := by first | (simp [rpF, c_13_108]; done) | (simp [rpF, hrd, c_13_108]; done)
    have hgo : cat [mdW cyI A ((M.1, M.2.1, M.2.2.1, M.2.2.2.1, M.2.2.2.2.1, M.2.2.2.2.2.1, M.2.2.2.2.2.2.1, M.2.2.2.2.2.2.2.1, M.2.2.2.2.2.2.2.2.1, M.2.2.2.2.2.2.2.2.2.1, (mAt M.2.2.2.2.1 M.2.2.2.2.2.1 k), mAt M.2.2.2.2.1 M.2.2.2.2.2.1 (k + 1) - 48))] = cat [mdW cyI A ((M.1, M.2.1, M.2.2.1, M.2.2.2.1, M.2.2.2.2.1, M.2.2.2.2.2.1, M.2.2.2.2.2.2.1, M.2.2.2.2.2.2.2.1, M.2.2.2.2.2.2.2.2.1, M.2.2.2.2.2.2.2.2.2.1, (rpF M.2.2.2.2.1 M.2.2.2.2.2.1 M.2.2.2.2.2.2.2.2.2.2.2 k).2.1, (rpF M.2.2.2.2.1 M.2.2.2.2.2.1 M.2.2.2.2.2.2.2.2.2.2.2 k).2.2))] := by rw [hrp]; try rfl
    rw [hgo] at hP hD
    have hP : va_P G vwCl (cat [mdW cyI A ((M.1, M.2.1, M.2.2.1, M.2.2.2.1, M.2.2.2.2.1, M.2.2.2.2.2.1, M.2.2.2.2.2.2.1, M.2.2.2.2.2.2.2.1, M.2.2.2.2.2.2.2.2.1, M.2.2.2.2.2.2.2.2.2.1, (rpF M.2.2.2.2.1 M.2.2.2.2.2.1 M.2.2.2.2.2.2.2.2.2.2.2 k).2.1, (rpF M.2.2.2.2.1 M.2.2.2.2.2.1 M.2.2.2.2.2.2.2.2.2.2.2 k).2.2))]) H := hP
    have hD : va_D A9 (cat [mdW cyI A ((M.1, M.2.1, M.2.2.1, M.2.2.2.1, M.2.2.2.2.1, M.2.2.2.2.2.1, M.2.2.2.2.2.2.1, M.2.2.2.2.2.2.2.1, M.2.2.2.2.2.2.2.2.1, M.2.2.2.2.2.2.2.2.2.1, (rpF M.2.2.2.2.1 M.2.2.2.2.2.1 M.2.2.2.2.2.2.2.2.2.2.2 k).2.1, (rpF M.2.2.2.2.1 M.2.2.2.2.2.1 M.2.2.2.2.2.2.2.2.2.2.2 k).2.2))]) := hD
    exact end_i hx hb hr hlocks hK hP hD hS (by rw [hrp]) dX6_readPart_108
  by_cases c_13_112 : mAt M.2.2.2.2.1 M.2.2.2.2.2.1 k = (112 : Int32)
  · refine lv_lookup (tgt := 109) (off := 96) hx hb dX6_readPart_13 (by decide) (by rw [c_13_112]; rfl) (by decide) ?_
    refine lv_iload_n hx hb dX6_readPart_109 rfl (lv_at hl 1 rfl) ?_
    refine lv_iconst (v := (1 : Int32)) hx hb dX6_readPart_110 (by decide) ?_
    refine lv_iadd hx hb dX6_readPart_111 ?_
    refine top_i (x' := nI (k + 1)) (nI_add (k) (1)) ?_
    have hrp : rpF M.2.2.2.2.1 M.2.2.2.2.2.1 M.2.2.2.2.2.2.2.2.2.2.2 k = (nI (k + 1), mAt M.2.2.2.2.1 M.2.2.2.2.2.1 k, M.2.2.2.2.2.2.2.2.2.2.2) := by first | (simp [rpF, c_13_112]; done) | (simp [rpF, hrd, c_13_112]; done)
    have hgo : cat [[(A 0, .inr (6, [.int (M.1), .ref (A 1), .ref (A 2), .int (nI (M.2.2.2.1)), .ref (A 3), .int (nI (M.2.2.2.2.2.1)), .ref (A 4), .ref (A 5), .ref (A 6), .ref (A 7), .int (mAt M.2.2.2.2.1 M.2.2.2.2.2.1 k), .int (M.2.2.2.2.2.2.2.2.2.2.2)]))], [(A 1, .inl (cyI, 91, .inl (M.2.1)))], [(A 2, .inl (cyI, 546, .inl (M.2.2.1)))], [(A 3, .inl (cyI, 60, .inl (M.2.2.2.2.1)))], [(A 4, .inl (cyI, 20, .inl (M.2.2.2.2.2.2.1)))], [(A 5, .inl (cyI, 6, .inl (M.2.2.2.2.2.2.2.1)))], [(A 6, .inl (cyI, 6, .inl (M.2.2.2.2.2.2.2.2.1)))], [(A 7, .inl (cyI, 6, .inl (M.2.2.2.2.2.2.2.2.2.1)))]] = cat [mdW cyI A ((M.1, M.2.1, M.2.2.1, M.2.2.2.1, M.2.2.2.2.1, M.2.2.2.2.2.1, M.2.2.2.2.2.2.1, M.2.2.2.2.2.2.2.1, M.2.2.2.2.2.2.2.2.1, M.2.2.2.2.2.2.2.2.2.1, (rpF M.2.2.2.2.1 M.2.2.2.2.2.1 M.2.2.2.2.2.2.2.2.2.2.2 k).2.1, (rpF M.2.2.2.2.1 M.2.2.2.2.2.1 M.2.2.2.2.2.2.2.2.2.2.2 k).2.2))] := by rw [hrp]; try rfl
    rw [hgo] at hP hD
    have hP : va_P G vwCl (cat [mdW cyI A ((M.1, M.2.1, M.2.2.1, M.2.2.2.1, M.2.2.2.2.1, M.2.2.2.2.2.1, M.2.2.2.2.2.2.1, M.2.2.2.2.2.2.2.1, M.2.2.2.2.2.2.2.2.1, M.2.2.2.2.2.2.2.2.2.1, (rpF M.2.2.2.2.1 M.2.2.2.2.2.1 M.2.2.2.2.2.2.2.2.2.2.2 k).2.1, (rpF M.2.2.2.2.1 M.2.2.2.2.2.1 M.2.2.2.2.2.2.2.2.2.2.2 k).2.2))]) H := hP
    have hD : va_D A9 (cat [mdW cyI A ((M.1, M.2.1, M.2.2.1, M.2.2.2.1, M.2.2.2.2.1, M.2.2.2.2.2.1, M.2.2.2.2.2.2.1, M.2.2.2.2.2.2.2.1, M.2.2.2.2.2.2.2.2.1, M.2.2.2.2.2.2.2.2.2.1, (rpF M.2.2.2.2.1 M.2.2.2.2.2.1 M.2.2.2.2.2.2.2.2.2.2.2 k).2.1, (rpF M.2.2.2.2.1 M.2.2.2.2.2.1 M.2.2.2.2.2.2.2.2.2.2.2 k).2.2))]) := hD
    exact end_i hx hb hr hlocks hK hP hD hS (by rw [hrp]) dX6_readPart_112
  by_cases c_13_120 : mAt M.2.2.2.2.1 M.2.2.2.2.2.1 k = (120 : Int32)
  · refine lv_lookup (tgt := 109) (off := 96) hx hb dX6_readPart_13 (by decide) (by rw [c_13_120]; rfl) (by decide) ?_
    refine lv_iload_n hx hb dX6_readPart_109 rfl (lv_at hl 1 rfl) ?_
    refine lv_iconst (v := (1 : Int32)) hx hb dX6_readPart_110 (by decide) ?_
    refine lv_iadd hx hb dX6_readPart_111 ?_
    refine top_i (x' := nI (k + 1)) (nI_add (k) (1)) ?_
    have hrp : rpF M.2.2.2.2.1 M.2.2.2.2.2.1 M.2.2.2.2.2.2.2.2.2.2.2 k = (nI (k + 1), mAt M.2.2.2.2.1 M.2.2.2.2.2.1 k, M.2.2.2.2.2.2.2.2.2.2.2) := by first | (simp [rpF, c_13_120]; done) | (simp [rpF, hrd, c_13_120]; done)
    have hgo : cat [[(A 0, .inr (6, [.int (M.1), .ref (A 1), .ref (A 2), .int (nI (M.2.2.2.1)), .ref (A 3), .int (nI (M.2.2.2.2.2.1)), .ref (A 4), .ref (A 5), .ref (A 6), .ref (A 7), .int (mAt M.2.2.2.2.1 M.2.2.2.2.2.1 k), .int (M.2.2.2.2.2.2.2.2.2.2.2)]))], [(A 1, .inl (cyI, 91, .inl (M.2.1)))], [(A 2, .inl (cyI, 546, .inl (M.2.2.1)))], [(A 3, .inl (cyI, 60, .inl (M.2.2.2.2.1)))], [(A 4, .inl (cyI, 20, .inl (M.2.2.2.2.2.2.1)))], [(A 5, .inl (cyI, 6, .inl (M.2.2.2.2.2.2.2.1)))], [(A 6, .inl (cyI, 6, .inl (M.2.2.2.2.2.2.2.2.1)))], [(A 7, .inl (cyI, 6, .inl (M.2.2.2.2.2.2.2.2.2.1)))]] = cat [mdW cyI A ((M.1, M.2.1, M.2.2.1, M.2.2.2.1, M.2.2.2.2.1, M.2.2.2.2.2.1, M.2.2.2.2.2.2.1, M.2.2.2.2.2.2.2.1, M.2.2.2.2.2.2.2.2.1, M.2.2.2.2.2.2.2.2.2.1, (rpF M.2.2.2.2.1 M.2.2.2.2.2.1 M.2.2.2.2.2.2.2.2.2.2.2 k).2.1, (rpF M.2.2.2.2.1 M.2.2.2.2.2.1 M.2.2.2.2.2.2.2.2.2.2.2 k).2.2))] := by rw [hrp]; try rfl
    rw [hgo] at hP hD
    have hP : va_P G vwCl (cat [mdW cyI A ((M.1, M.2.1, M.2.2.1, M.2.2.2.1, M.2.2.2.2.1, M.2.2.2.2.2.1, M.2.2.2.2.2.2.1, M.2.2.2.2.2.2.2.1, M.2.2.2.2.2.2.2.2.1, M.2.2.2.2.2.2.2.2.2.1, (rpF M.2.2.2.2.1 M.2.2.2.2.2.1 M.2.2.2.2.2.2.2.2.2.2.2 k).2.1, (rpF M.2.2.2.2.1 M.2.2.2.2.2.1 M.2.2.2.2.2.2.2.2.2.2.2 k).2.2))]) H := hP
    have hD : va_D A9 (cat [mdW cyI A ((M.1, M.2.1, M.2.2.1, M.2.2.2.1, M.2.2.2.2.1, M.2.2.2.2.2.1, M.2.2.2.2.2.2.1, M.2.2.2.2.2.2.2.1, M.2.2.2.2.2.2.2.2.1, M.2.2.2.2.2.2.2.2.2.1, (rpF M.2.2.2.2.1 M.2.2.2.2.2.1 M.2.2.2.2.2.2.2.2.2.2.2 k).2.1, (rpF M.2.2.2.2.1 M.2.2.2.2.2.1 M.2.2.2.2.2.2.2.2.2.2.2 k).2.2))]) := hD
    exact end_i hx hb hr hlocks hK hP hD hS (by rw [hrp]) dX6_readPart_112
  refine lv_lookup (tgt := 116) (off := 103) hx hb dX6_readPart_13 (by decide) (by show Op.lookupswitch.offset [(43, 75), (45, 100), (99, 86), (100, 96), (104, 96), (108, 86), (112, 96), (120, 96)] 103 _ = 103; rw [lo_ne (n := 43) c_13_43 (by decide), lo_ne (n := 45) c_13_45 (by decide), lo_ne (n := 99) c_13_99 (by decide), lo_ne (n := 100) c_13_100 (by decide), lo_ne (n := 104) c_13_104 (by decide), lo_ne (n := 108) c_13_108 (by decide), lo_ne (n := 112) c_13_112 (by decide), lo_ne (n := 120) c_13_120 (by decide)]; rfl) (by decide) ?_
  refine lv_iconst (v := (-1 : Int32)) hx hb dX6_readPart_116 (by decide) ?_
  refine lv_iload_n hx hb dX6_readPart_117 rfl (lv_at hl 1 rfl) ?_
  refine lv_isub hx hb dX6_readPart_118 ?_
  have hrp : rpF M.2.2.2.2.1 M.2.2.2.2.2.1 M.2.2.2.2.2.2.2.2.2.2.2 k = (((-1 : Int32)) - (nI (k)), mAt M.2.2.2.2.1 M.2.2.2.2.2.1 k, M.2.2.2.2.2.2.2.2.2.2.2) := by first | (simp [rpF, c_13_43, c_13_45, c_13_99, c_13_100, c_13_104, c_13_108, c_13_112, c_13_120]; done) | (simp [rpF, hrd, c_13_43, c_13_45, c_13_99, c_13_100, c_13_104, c_13_108, c_13_112, c_13_120]; done)
  have hgo : cat [[(A 0, .inr (6, [.int (M.1), .ref (A 1), .ref (A 2), .int (nI (M.2.2.2.1)), .ref (A 3), .int (nI (M.2.2.2.2.2.1)), .ref (A 4), .ref (A 5), .ref (A 6), .ref (A 7), .int (mAt M.2.2.2.2.1 M.2.2.2.2.2.1 k), .int (M.2.2.2.2.2.2.2.2.2.2.2)]))], [(A 1, .inl (cyI, 91, .inl (M.2.1)))], [(A 2, .inl (cyI, 546, .inl (M.2.2.1)))], [(A 3, .inl (cyI, 60, .inl (M.2.2.2.2.1)))], [(A 4, .inl (cyI, 20, .inl (M.2.2.2.2.2.2.1)))], [(A 5, .inl (cyI, 6, .inl (M.2.2.2.2.2.2.2.1)))], [(A 6, .inl (cyI, 6, .inl (M.2.2.2.2.2.2.2.2.1)))], [(A 7, .inl (cyI, 6, .inl (M.2.2.2.2.2.2.2.2.2.1)))]] = cat [mdW cyI A ((M.1, M.2.1, M.2.2.1, M.2.2.2.1, M.2.2.2.2.1, M.2.2.2.2.2.1, M.2.2.2.2.2.2.1, M.2.2.2.2.2.2.2.1, M.2.2.2.2.2.2.2.2.1, M.2.2.2.2.2.2.2.2.2.1, (rpF M.2.2.2.2.1 M.2.2.2.2.2.1 M.2.2.2.2.2.2.2.2.2.2.2 k).2.1, (rpF M.2.2.2.2.1 M.2.2.2.2.2.1 M.2.2.2.2.2.2.2.2.2.2.2 k).2.2))] := by rw [hrp]; try rfl
  rw [hgo] at hP hD
  have hP : va_P G vwCl (cat [mdW cyI A ((M.1, M.2.1, M.2.2.1, M.2.2.2.1, M.2.2.2.2.1, M.2.2.2.2.2.1, M.2.2.2.2.2.2.1, M.2.2.2.2.2.2.2.1, M.2.2.2.2.2.2.2.2.1, M.2.2.2.2.2.2.2.2.2.1, (rpF M.2.2.2.2.1 M.2.2.2.2.2.1 M.2.2.2.2.2.2.2.2.2.2.2 k).2.1, (rpF M.2.2.2.2.1 M.2.2.2.2.2.1 M.2.2.2.2.2.2.2.2.2.2.2 k).2.2))]) H := hP
  have hD : va_D A9 (cat [mdW cyI A ((M.1, M.2.1, M.2.2.1, M.2.2.2.1, M.2.2.2.2.1, M.2.2.2.2.2.1, M.2.2.2.2.2.2.1, M.2.2.2.2.2.2.2.1, M.2.2.2.2.2.2.2.2.1, M.2.2.2.2.2.2.2.2.2.1, (rpF M.2.2.2.2.1 M.2.2.2.2.2.1 M.2.2.2.2.2.2.2.2.2.2.2 k).2.1, (rpF M.2.2.2.2.1 M.2.2.2.2.2.1 M.2.2.2.2.2.2.2.2.2.2.2 k).2.2))]) := hD
  exact end_i hx hb hr hlocks hK hP hD hS (by rw [hrp]) dX6_readPart_119
abbrev rm_X6_findError : Room := { frames := 3, cells := 0, slots := 0, locals := 67 }
set_option maxHeartbeats 4000000 in
set_option maxRecDepth 100000 in
theorem c_X6_findError (l : Launch) (G : va_G) (cyI cyO : ClassId) (A : Nat → Nat) (M : MS) (hln : M.2.2.2.2.2.1 ≤ 60) : CI l G (TY cyI cyO) yX6_findError wsX6_findError rm_X6_findError [.ref (A 0)] [mdW cyI A M] ((feF M.2.2.2.2.1 M.2.2.2.2.2.1 61 0 M.2.2.2.2.2.2.2.2.2.2.2).1) [mdW cyI A ((M.1, M.2.1, M.2.2.1, M.2.2.2.1, M.2.2.2.2.1, M.2.2.2.2.2.1, M.2.2.2.2.2.2.1, M.2.2.2.2.2.2.2.1, M.2.2.2.2.2.2.2.2.1, M.2.2.2.2.2.2.2.2.2.1, (feF M.2.2.2.2.1 M.2.2.2.2.2.1 61 0 M.2.2.2.2.2.2.2.2.2.2.2).2.1, (feF M.2.2.2.2.1 M.2.2.2.2.2.1 61 0 M.2.2.2.2.2.2.2.2.2.2.2).2.2))] := by
  refine wk_I (cc := cX6_findError) (maxL := 2) (ret := (some .int)) (by decide) rfl (Nat.le_of_ble_eq_true rfl) ?_
  intro p9 e9 s9 m9 b9 t9 c9 A9 ls hx hb hr hts hown hlocks hml hK hA hD hP hl hS hnm
  have hl : lv_has ls 2 [(0, .ref (A 0))] := hl
  have hinX6 : ∀ w ∈ wsX60, w ∈ wsX6_findError := by decide +kernel
  have hf146 := hts (.fieldLink RX6 146 "DoorstepRoundsModel" "length" "I") (by decide +kernel)
  have hf16 := hts (.fieldLink RX6 16 "DoorstepRoundsModel" "text" "[I") (by decide +kernel)
  have hP : va_P G vwCl (cat [[(A 0, .inr (6, [.int (M.1), .ref (A 1), .ref (A 2), .int (nI (M.2.2.2.1)), .ref (A 3), .int (nI (M.2.2.2.2.2.1)), .ref (A 4), .ref (A 5), .ref (A 6), .ref (A 7), .int (M.2.2.2.2.2.2.2.2.2.2.1), .int (M.2.2.2.2.2.2.2.2.2.2.2)]))], [(A 1, .inl (cyI, 91, .inl (M.2.1)))], [(A 2, .inl (cyI, 546, .inl (M.2.2.1)))], [(A 3, .inl (cyI, 60, .inl (M.2.2.2.2.1)))], [(A 4, .inl (cyI, 20, .inl (M.2.2.2.2.2.2.1)))], [(A 5, .inl (cyI, 6, .inl (M.2.2.2.2.2.2.2.1)))], [(A 6, .inl (cyI, 6, .inl (M.2.2.2.2.2.2.2.2.1)))], [(A 7, .inl (cyI, 6, .inl (M.2.2.2.2.2.2.2.2.2.1)))]]) s9.heap := hP
  have hD : va_D A9 (cat [[(A 0, .inr (6, [.int (M.1), .ref (A 1), .ref (A 2), .int (nI (M.2.2.2.1)), .ref (A 3), .int (nI (M.2.2.2.2.2.1)), .ref (A 4), .ref (A 5), .ref (A 6), .ref (A 7), .int (M.2.2.2.2.2.2.2.2.2.2.1), .int (M.2.2.2.2.2.2.2.2.2.2.2)]))], [(A 1, .inl (cyI, 91, .inl (M.2.1)))], [(A 2, .inl (cyI, 546, .inl (M.2.2.1)))], [(A 3, .inl (cyI, 60, .inl (M.2.2.2.2.1)))], [(A 4, .inl (cyI, 20, .inl (M.2.2.2.2.2.2.1)))], [(A 5, .inl (cyI, 6, .inl (M.2.2.2.2.2.2.2.1)))], [(A 6, .inl (cyI, 6, .inl (M.2.2.2.2.2.2.2.2.1)))], [(A 7, .inl (cyI, 6, .inl (M.2.2.2.2.2.2.2.2.2.1)))]]) := hD
  refine lv_iconst (v := (0 : Int32)) hx hb dX6_findError_0 (by decide) ?_
  refine lv_istore_n (lv' := [(1, .int ((0 : Int32))), (0, .ref (A 0))]) hx hb dX6_findError_1 rfl hl (by decide) rfl (fun ls hl => ?_)
  refine W_loop (α := Nat × Nat × Int32 × Int32) (I := fun a9 H locs ls => (a9.2.1 ≤ M.2.2.2.2.2.1) ∧ (M.2.2.2.2.2.1 < a9.1 + a9.2.1) ∧ (feF M.2.2.2.2.1 M.2.2.2.2.2.1 a9.1 a9.2.1 a9.2.2.2 = feF M.2.2.2.2.1 M.2.2.2.2.2.1 61 0 M.2.2.2.2.2.2.2.2.2.2.2) ∧ va_P G vwCl (cat [[(A 0, .inr (6, [.int (M.1), .ref (A 1), .ref (A 2), .int (nI (M.2.2.2.1)), .ref (A 3), .int (nI (M.2.2.2.2.2.1)), .ref (A 4), .ref (A 5), .ref (A 6), .ref (A 7), .int (a9.2.2.1), .int (a9.2.2.2)]))], [(A 1, .inl (cyI, 91, .inl (M.2.1)))], [(A 2, .inl (cyI, 546, .inl (M.2.2.1)))], [(A 3, .inl (cyI, 60, .inl (M.2.2.2.2.1)))], [(A 4, .inl (cyI, 20, .inl (M.2.2.2.2.2.2.1)))], [(A 5, .inl (cyI, 6, .inl (M.2.2.2.2.2.2.2.1)))], [(A 6, .inl (cyI, 6, .inl (M.2.2.2.2.2.2.2.2.1)))], [(A 7, .inl (cyI, 6, .inl (M.2.2.2.2.2.2.2.2.2.1)))]]) H ∧ va_D A9 (cat [[(A 0, .inr (6, [.int (M.1), .ref (A 1), .ref (A 2), .int (nI (M.2.2.2.1)), .ref (A 3), .int (nI (M.2.2.2.2.2.1)), .ref (A 4), .ref (A 5), .ref (A 6), .ref (A 7), .int (a9.2.2.1), .int (a9.2.2.2)]))], [(A 1, .inl (cyI, 91, .inl (M.2.1)))], [(A 2, .inl (cyI, 546, .inl (M.2.2.1)))], [(A 3, .inl (cyI, 60, .inl (M.2.2.2.2.1)))], [(A 4, .inl (cyI, 20, .inl (M.2.2.2.2.2.2.1)))], [(A 5, .inl (cyI, 6, .inl (M.2.2.2.2.2.2.2.1)))], [(A 6, .inl (cyI, 6, .inl (M.2.2.2.2.2.2.2.2.1)))], [(A 7, .inl (cyI, 6, .inl (M.2.2.2.2.2.2.2.2.2.1)))]]) ∧ va_S A9 s9.heap H locs ∧ lv_has ls 2 [(1, .int (nI (a9.2.1))), (0, .ref (A 0))]) (μ := fun a9 => a9.1) (st := fun a9 => []) ?_ (61, 0, M.2.2.2.2.2.2.2.2.2.2.1, M.2.2.2.2.2.2.2.2.2.2.2) _ _ _ ⟨(show 0 ≤ M.2.2.2.2.2.1 from by omega), (show M.2.2.2.2.2.1 < 61 + 0 from by omega), (show feF M.2.2.2.2.1 M.2.2.2.2.2.1 61 0 M.2.2.2.2.2.2.2.2.2.2.2 = feF M.2.2.2.2.1 M.2.2.2.2.2.1 61 0 M.2.2.2.2.2.2.2.2.2.2.2 from rfl), hP, hD, hS, lv_sub hl [0, 1] rfl⟩
  intro a9 ih_2 H locs ls hI
  obtain ⟨f, k, l1, u1⟩ := a9
  obtain ⟨hk9, hf9, he9, hP9, hD9, hS9, hl9⟩ := hI
  have hk : k ≤ M.2.2.2.2.2.1 := hk9
  have hf : M.2.2.2.2.2.1 < f + k := hf9
  have he : feF M.2.2.2.2.1 M.2.2.2.2.2.1 f k u1 = feF M.2.2.2.2.1 M.2.2.2.2.2.1 61 0 M.2.2.2.2.2.2.2.2.2.2.2 := he9
  have hP : va_P G vwCl (cat [[(A 0, .inr (6, [.int (M.1), .ref (A 1), .ref (A 2), .int (nI (M.2.2.2.1)), .ref (A 3), .int (nI (M.2.2.2.2.2.1)), .ref (A 4), .ref (A 5), .ref (A 6), .ref (A 7), .int (l1), .int (u1)]))], [(A 1, .inl (cyI, 91, .inl (M.2.1)))], [(A 2, .inl (cyI, 546, .inl (M.2.2.1)))], [(A 3, .inl (cyI, 60, .inl (M.2.2.2.2.1)))], [(A 4, .inl (cyI, 20, .inl (M.2.2.2.2.2.2.1)))], [(A 5, .inl (cyI, 6, .inl (M.2.2.2.2.2.2.2.1)))], [(A 6, .inl (cyI, 6, .inl (M.2.2.2.2.2.2.2.2.1)))], [(A 7, .inl (cyI, 6, .inl (M.2.2.2.2.2.2.2.2.2.1)))]]) H := hP9
  have hD : va_D A9 (cat [[(A 0, .inr (6, [.int (M.1), .ref (A 1), .ref (A 2), .int (nI (M.2.2.2.1)), .ref (A 3), .int (nI (M.2.2.2.2.2.1)), .ref (A 4), .ref (A 5), .ref (A 6), .ref (A 7), .int (l1), .int (u1)]))], [(A 1, .inl (cyI, 91, .inl (M.2.1)))], [(A 2, .inl (cyI, 546, .inl (M.2.2.1)))], [(A 3, .inl (cyI, 60, .inl (M.2.2.2.2.1)))], [(A 4, .inl (cyI, 20, .inl (M.2.2.2.2.2.2.1)))], [(A 5, .inl (cyI, 6, .inl (M.2.2.2.2.2.2.2.1)))], [(A 6, .inl (cyI, 6, .inl (M.2.2.2.2.2.2.2.2.1)))], [(A 7, .inl (cyI, 6, .inl (M.2.2.2.2.2.2.2.2.2.1)))]]) := hD9
  have hS := hS9
  have hl : lv_has ls 2 [(1, .int (nI (k))), (0, .ref (A 0))] := hl9
  clear hk9 hf9 he9 hP9 hD9 hS9 hl9
  refine lv_aload_n hx hb dX6_findError_2 rfl (lv_at hl 1 rfl) ?_
  obtain ⟨f2, hff⟩ : ∃ f2, f = f2 + 1 := ⟨f - 1, by omega⟩
  refine lv_iload_n hx hb dX6_findError_3 rfl (lv_at hl 0 rfl) ?_
  have hP : va_P G vwCl (cat [mdW cyI A ((M.1, M.2.1, M.2.2.1, M.2.2.2.1, M.2.2.2.2.1, M.2.2.2.2.2.1, M.2.2.2.2.2.2.1, M.2.2.2.2.2.2.2.1, M.2.2.2.2.2.2.2.2.1, M.2.2.2.2.2.2.2.2.2.1, l1, u1))]) H := hP
  have hD : va_D A9 (cat [mdW cyI A ((M.1, M.2.1, M.2.2.1, M.2.2.2.1, M.2.2.2.2.1, M.2.2.2.2.2.1, M.2.2.2.2.2.2.1, M.2.2.2.2.2.2.2.1, M.2.2.2.2.2.2.2.2.1, M.2.2.2.2.2.2.2.2.2.1, l1, u1))]) := hD
  refine gVi (gs := [mdW cyI A ((M.1, M.2.1, M.2.2.1, M.2.2.2.1, M.2.2.2.2.1, M.2.2.2.2.2.1, M.2.2.2.2.2.2.1, M.2.2.2.2.2.2.2.1, M.2.2.2.2.2.2.2.2.1, M.2.2.2.2.2.2.2.2.2.1, l1, u1))]) (As := [.int (nI (k))]) (rest := []) ⟨hx, hb, hml, hown, hts⟩ (c_X6_readPart l G cyI cyO A ((M.1, M.2.1, M.2.2.1, M.2.2.2.1, M.2.2.2.2.1, M.2.2.2.2.2.1, M.2.2.2.2.2.2.1, M.2.2.2.2.2.2.2.1, M.2.2.2.2.2.2.2.2.1, M.2.2.2.2.2.2.2.2.2.1, l1, u1)) k hln (by omega)) (cwV 1 hts gX6_findError_X6_readPart rfl rfl rfl (by decide +kernel) ⟨Nat.le_of_ble_eq_true rfl, Nat.le_of_ble_eq_true rfl⟩) hK hP hD hS hA [0] rfl rfl rfl 0 6 rfl rfl rfl hl.1 rfl (Nat.le_of_ble_eq_true rfl) dX6_findError_4 ⟨Nat.le_refl _, Nat.le_refl _⟩ (fun H locs hP hD hS => ?_)
  have hP : va_P G vwCl (cat [mdW cyI A ((M.1, M.2.1, M.2.2.1, M.2.2.2.1, M.2.2.2.2.1, M.2.2.2.2.2.1, M.2.2.2.2.2.2.1, M.2.2.2.2.2.2.2.1, M.2.2.2.2.2.2.2.2.1, M.2.2.2.2.2.2.2.2.2.1, (rpF M.2.2.2.2.1 M.2.2.2.2.2.1 u1 k).2.1, (rpF M.2.2.2.2.1 M.2.2.2.2.2.1 u1 k).2.2))]) H := hP
  have hD : va_D A9 (cat [mdW cyI A ((M.1, M.2.1, M.2.2.1, M.2.2.2.1, M.2.2.2.2.1, M.2.2.2.2.2.1, M.2.2.2.2.2.2.1, M.2.2.2.2.2.2.2.1, M.2.2.2.2.2.2.2.2.1, M.2.2.2.2.2.2.2.2.2.1, (rpF M.2.2.2.2.1 M.2.2.2.2.2.1 u1 k).2.1, (rpF M.2.2.2.2.1 M.2.2.2.2.2.1 u1 k).2.2))]) := hD
  refine lv_istore_n (lv' := [(1, .int ((rpF M.2.2.2.2.1 M.2.2.2.2.2.1 u1 k).1)), (0, .ref (A 0))]) hx hb dX6_findError_7 rfl hl (by decide) rfl (fun ls hl => ?_)
  refine lv_iload_n hx hb dX6_findError_8 rfl (lv_at hl 0 rfl) ?_
  refine lv_if_ge (tgt := 16) hx hb dX6_findError_9 (by decide) (fun c_9 => ?_) (fun c_9 => ?_)
  · obtain ⟨k2, hk2, hk3, hk4⟩ := rp_pos (by omega) c_9
    rw [hk2] at hl
    have hl : lv_has ls 2 [(1, .int (nI (k2))), (0, .ref (A 0))] := hl
    refine lv_iload_n hx hb dX6_findError_16 rfl (lv_at hl 0 rfl) ?_
    refine lv_aload_n hx hb dX6_findError_17 rfl (lv_at hl 1 rfl) ?_
    refine va_get (v := .int (nI (M.2.2.2.2.2.1))) (C := RX6) (T := TX6) (N := 12) hx hb hts hinX6 hown hK hP 0 rfl rfl 5 (by decide) hf146 (fun _ h9 => h9) rfl dX6_findError_18 ?_
    refine lv_icmp_ne (tgt := 26) hx hb dX6_findError_21 (by decide) (fun c_21 => ?_) (fun c_21 => ?_)
    · have c_21 : ¬ (k2) = (M.2.2.2.2.2.1) := fun h9 => c_21 ((nI_eq (a := k2) (b := M.2.2.2.2.2.1) (by omega) (by omega)).mpr h9)
      refine lv_aload_n hx hb dX6_findError_26 rfl (lv_at hl 1 rfl) ?_
      refine va_get (v := .ref (A 3)) (C := RX6) (T := TX6) (N := 12) hx hb hts hinX6 hown hK hP 0 rfl rfl 4 (by decide) hf16 (fun _ h9 => h9) rfl dX6_findError_27 ?_
      refine lv_iload_n hx hb dX6_findError_30 rfl (lv_at hl 0 rfl) ?_
      refine r_ild (k := k2) (n := 60) (f := M.2.2.2.2.1) hx hb hK hP 3 0 rfl rfl (by omega) (by omega) rfl dX6_findError_31 ?_
      refine lv_bipush (v := (59 : Int32)) hx hb dX6_findError_32 (by decide) ?_
      refine lv_icmp_eq (tgt := 39) hx hb dX6_findError_34 (by decide) (fun c_34 => ?_) (fun c_34 => ?_)
      · refine lv_iinc (v := nI (k2 + 1)) (lv' := [(1, .int (nI (k2 + 1))), (0, .ref (A 0))]) hx hb dX6_findError_39 hl (k := 0) rfl (nI_add _ _) (by decide) rfl (fun ls hl => ?_)
        refine lv_goto (tgt := 2) hx hb dX6_findError_42 (by decide) ?_
        exact ih_2 (f - 1, k2 + 1, (rpF M.2.2.2.2.1 M.2.2.2.2.2.1 u1 k).2.1, (rpF M.2.2.2.2.1 M.2.2.2.2.2.1 u1 k).2.2) (by show (f - 1) < (f); omega) _ _ _ ⟨(show (k2 + 1) ≤ M.2.2.2.2.2.1 from by omega), (show M.2.2.2.2.2.1 < (f - 1) + (k2 + 1) from by omega), (show feF M.2.2.2.2.1 M.2.2.2.2.2.1 (f - 1) (k2 + 1) ((rpF M.2.2.2.2.1 M.2.2.2.2.2.1 u1 k).2.2) = feF M.2.2.2.2.1 M.2.2.2.2.2.1 61 0 M.2.2.2.2.2.2.2.2.2.2.2 from by rw [← he, hff]; exact (feF_go hk2 (by omega) (by omega) (by omega) c_34).symm), hP, hD, hS, lv_sub hl [0, 1] rfl⟩
      · refine lv_iload_n hx hb dX6_findError_37 rfl (lv_at hl 0 rfl) ?_
        have hfe : feF M.2.2.2.2.1 M.2.2.2.2.2.1 61 0 M.2.2.2.2.2.2.2.2.2.2.2 = (nI k2, (rpF M.2.2.2.2.1 M.2.2.2.2.2.1 u1 k).2.1, (rpF M.2.2.2.2.1 M.2.2.2.2.2.1 u1 k).2.2) := by rw [← he, hff]; unfold feF; (try dsimp only); rw [hk2, if_neg (nI_pos (by omega)), if_neg (fun h9 => c_21 ((nI_eq (by omega) (by omega)).mp h9)), nI_clamp (by omega), if_neg c_34]
        have hgo : cat [mdW cyI A ((M.1, M.2.1, M.2.2.1, M.2.2.2.1, M.2.2.2.2.1, M.2.2.2.2.2.1, M.2.2.2.2.2.2.1, M.2.2.2.2.2.2.2.1, M.2.2.2.2.2.2.2.2.1, M.2.2.2.2.2.2.2.2.2.1, (rpF M.2.2.2.2.1 M.2.2.2.2.2.1 u1 k).2.1, (rpF M.2.2.2.2.1 M.2.2.2.2.2.1 u1 k).2.2))] = cat [mdW cyI A ((M.1, M.2.1, M.2.2.1, M.2.2.2.1, M.2.2.2.2.1, M.2.2.2.2.2.1, M.2.2.2.2.2.2.1, M.2.2.2.2.2.2.2.1, M.2.2.2.2.2.2.2.2.1, M.2.2.2.2.2.2.2.2.2.1, (feF M.2.2.2.2.1 M.2.2.2.2.2.1 61 0 M.2.2.2.2.2.2.2.2.2.2.2).2.1, (feF M.2.2.2.2.1 M.2.2.2.2.2.1 61 0 M.2.2.2.2.2.2.2.2.2.2.2).2.2))] := by rw [hfe]; try rfl
        rw [hgo] at hP hD
        have hP : va_P G vwCl (cat [mdW cyI A ((M.1, M.2.1, M.2.2.1, M.2.2.2.1, M.2.2.2.2.1, M.2.2.2.2.2.1, M.2.2.2.2.2.2.1, M.2.2.2.2.2.2.2.1, M.2.2.2.2.2.2.2.2.1, M.2.2.2.2.2.2.2.2.2.1, (feF M.2.2.2.2.1 M.2.2.2.2.2.1 61 0 M.2.2.2.2.2.2.2.2.2.2.2).2.1, (feF M.2.2.2.2.1 M.2.2.2.2.2.1 61 0 M.2.2.2.2.2.2.2.2.2.2.2).2.2))]) H := hP
        have hD : va_D A9 (cat [mdW cyI A ((M.1, M.2.1, M.2.2.1, M.2.2.2.1, M.2.2.2.2.1, M.2.2.2.2.2.1, M.2.2.2.2.2.2.1, M.2.2.2.2.2.2.2.1, M.2.2.2.2.2.2.2.2.1, M.2.2.2.2.2.2.2.2.2.1, (feF M.2.2.2.2.1 M.2.2.2.2.2.1 61 0 M.2.2.2.2.2.2.2.2.2.2.2).2.1, (feF M.2.2.2.2.1 M.2.2.2.2.2.1 61 0 M.2.2.2.2.2.2.2.2.2.2.2).2.2))]) := hD
        exact end_i hx hb hr hlocks hK hP hD hS (by rw [hfe]) dX6_findError_38
    · have c_21 : (k2) = (M.2.2.2.2.2.1) := (nI_eq (a := k2) (b := M.2.2.2.2.2.1) (by omega) (by omega)).mp c_21
      refine lv_iconst (v := (-1 : Int32)) hx hb dX6_findError_24 (by decide) ?_
      have hfe : feF M.2.2.2.2.1 M.2.2.2.2.2.1 61 0 M.2.2.2.2.2.2.2.2.2.2.2 = (-1, (rpF M.2.2.2.2.1 M.2.2.2.2.2.1 u1 k).2.1, (rpF M.2.2.2.2.1 M.2.2.2.2.2.1 u1 k).2.2) := by rw [← he, hff]; unfold feF; (try dsimp only); rw [hk2, if_neg (nI_pos (by omega)), if_pos (congrArg nI c_21)]
      have hgo : cat [mdW cyI A ((M.1, M.2.1, M.2.2.1, M.2.2.2.1, M.2.2.2.2.1, M.2.2.2.2.2.1, M.2.2.2.2.2.2.1, M.2.2.2.2.2.2.2.1, M.2.2.2.2.2.2.2.2.1, M.2.2.2.2.2.2.2.2.2.1, (rpF M.2.2.2.2.1 M.2.2.2.2.2.1 u1 k).2.1, (rpF M.2.2.2.2.1 M.2.2.2.2.2.1 u1 k).2.2))] = cat [mdW cyI A ((M.1, M.2.1, M.2.2.1, M.2.2.2.1, M.2.2.2.2.1, M.2.2.2.2.2.1, M.2.2.2.2.2.2.1, M.2.2.2.2.2.2.2.1, M.2.2.2.2.2.2.2.2.1, M.2.2.2.2.2.2.2.2.2.1, (feF M.2.2.2.2.1 M.2.2.2.2.2.1 61 0 M.2.2.2.2.2.2.2.2.2.2.2).2.1, (feF M.2.2.2.2.1 M.2.2.2.2.2.1 61 0 M.2.2.2.2.2.2.2.2.2.2.2).2.2))] := by rw [hfe]; try rfl
      rw [hgo] at hP hD
      have hP : va_P G vwCl (cat [mdW cyI A ((M.1, M.2.1, M.2.2.1, M.2.2.2.1, M.2.2.2.2.1, M.2.2.2.2.2.1, M.2.2.2.2.2.2.1, M.2.2.2.2.2.2.2.1, M.2.2.2.2.2.2.2.2.1, M.2.2.2.2.2.2.2.2.2.1, (feF M.2.2.2.2.1 M.2.2.2.2.2.1 61 0 M.2.2.2.2.2.2.2.2.2.2.2).2.1, (feF M.2.2.2.2.1 M.2.2.2.2.2.1 61 0 M.2.2.2.2.2.2.2.2.2.2.2).2.2))]) H := hP
      have hD : va_D A9 (cat [mdW cyI A ((M.1, M.2.1, M.2.2.1, M.2.2.2.1, M.2.2.2.2.1, M.2.2.2.2.2.1, M.2.2.2.2.2.2.1, M.2.2.2.2.2.2.2.1, M.2.2.2.2.2.2.2.2.1, M.2.2.2.2.2.2.2.2.2.1, (feF M.2.2.2.2.1 M.2.2.2.2.2.1 61 0 M.2.2.2.2.2.2.2.2.2.2.2).2.1, (feF M.2.2.2.2.1 M.2.2.2.2.2.1 61 0 M.2.2.2.2.2.2.2.2.2.2.2).2.2))]) := hD
      exact end_i hx hb hr hlocks hK hP hD hS (by rw [hfe]) dX6_findError_25
  · refine lv_iconst (v := (-1 : Int32)) hx hb dX6_findError_12 (by decide) ?_
    refine lv_iload_n hx hb dX6_findError_13 rfl (lv_at hl 0 rfl) ?_
    refine lv_isub hx hb dX6_findError_14 ?_
    have hfe : feF M.2.2.2.2.1 M.2.2.2.2.2.1 61 0 M.2.2.2.2.2.2.2.2.2.2.2 = (-1 - (rpF M.2.2.2.2.1 M.2.2.2.2.2.1 u1 k).1, (rpF M.2.2.2.2.1 M.2.2.2.2.2.1 u1 k).2.1, (rpF M.2.2.2.2.1 M.2.2.2.2.2.1 u1 k).2.2) := by rw [← he, hff]; unfold feF; (try dsimp only); rw [if_pos (i32_lt c_9)]
    have hgo : cat [mdW cyI A ((M.1, M.2.1, M.2.2.1, M.2.2.2.1, M.2.2.2.2.1, M.2.2.2.2.2.1, M.2.2.2.2.2.2.1, M.2.2.2.2.2.2.2.1, M.2.2.2.2.2.2.2.2.1, M.2.2.2.2.2.2.2.2.2.1, (rpF M.2.2.2.2.1 M.2.2.2.2.2.1 u1 k).2.1, (rpF M.2.2.2.2.1 M.2.2.2.2.2.1 u1 k).2.2))] = cat [mdW cyI A ((M.1, M.2.1, M.2.2.1, M.2.2.2.1, M.2.2.2.2.1, M.2.2.2.2.2.1, M.2.2.2.2.2.2.1, M.2.2.2.2.2.2.2.1, M.2.2.2.2.2.2.2.2.1, M.2.2.2.2.2.2.2.2.2.1, (feF M.2.2.2.2.1 M.2.2.2.2.2.1 61 0 M.2.2.2.2.2.2.2.2.2.2.2).2.1, (feF M.2.2.2.2.1 M.2.2.2.2.2.1 61 0 M.2.2.2.2.2.2.2.2.2.2.2).2.2))] := by rw [hfe]; try rfl
    rw [hgo] at hP hD
    have hP : va_P G vwCl (cat [mdW cyI A ((M.1, M.2.1, M.2.2.1, M.2.2.2.1, M.2.2.2.2.1, M.2.2.2.2.2.1, M.2.2.2.2.2.2.1, M.2.2.2.2.2.2.2.1, M.2.2.2.2.2.2.2.2.1, M.2.2.2.2.2.2.2.2.2.1, (feF M.2.2.2.2.1 M.2.2.2.2.2.1 61 0 M.2.2.2.2.2.2.2.2.2.2.2).2.1, (feF M.2.2.2.2.1 M.2.2.2.2.2.1 61 0 M.2.2.2.2.2.2.2.2.2.2.2).2.2))]) H := hP
    have hD : va_D A9 (cat [mdW cyI A ((M.1, M.2.1, M.2.2.1, M.2.2.2.1, M.2.2.2.2.1, M.2.2.2.2.2.1, M.2.2.2.2.2.2.1, M.2.2.2.2.2.2.2.1, M.2.2.2.2.2.2.2.2.1, M.2.2.2.2.2.2.2.2.2.1, (feF M.2.2.2.2.1 M.2.2.2.2.2.1 61 0 M.2.2.2.2.2.2.2.2.2.2.2).2.1, (feF M.2.2.2.2.1 M.2.2.2.2.2.1 61 0 M.2.2.2.2.2.2.2.2.2.2.2).2.2))]) := hD
    exact end_i hx hb hr hlocks hK hP hD hS (by rw [hfe]) dX6_findError_15

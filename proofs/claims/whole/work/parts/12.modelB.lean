/-! ===== DoorstepRoundsModel: what it does ===== -/
def mFq (M : MS) (n : Nat) : M3 := itr 6 (fqStep M.2.1 n) (M.2.2.2.2.2.2.2.1, M.2.2.2.2.2.2.2.2.1, M.2.2.2.2.2.2.2.2.2.1)
def mKo (M : MS) (n : Nat) : M3 := koAll M.2.1 n (mFq M n).1 (M.2.2.2.2.2.2.1, (mFq M n).2.1, (mFq M n).2.2)
def mWl (M : MS) (n : Nat) : M3 := whl M.2.1 (mFq M n).1 n n (mKo M n)
def mSh (M : MS) (n : Nat) : MS := if cW (zW M.2.1) = 0 then (M.1, M.2.1, M.2.2.1, M.2.2.2.1, M.2.2.2.2.1, M.2.2.2.2.2.1, itr n (fun d g => upd g d (-1)) M.2.2.2.2.2.2.1, M.2.2.2.2.2.2.2.1, M.2.2.2.2.2.2.2.2.1, M.2.2.2.2.2.2.2.2.2.1, M.2.2.2.2.2.2.2.2.2.2.1, M.2.2.2.2.2.2.2.2.2.2.2) else (M.1, M.2.1, M.2.2.1, M.2.2.2.1, M.2.2.2.2.1, M.2.2.2.2.2.1, (mWl M n).1, (mFq M n).1, (mWl M n).2.1, (mWl M n).2.2, M.2.2.2.2.2.2.2.2.2.2.1, M.2.2.2.2.2.2.2.2.2.2.2)
def mShR (M : MS) (n : Nat) : Int32 := if cW (zW M.2.1) = 0 then -1 else nI (ccAll (mWl M n).1 (zO M.2.1) n)
theorem mSh_z (M : MS) (n : Nat) : (mSh M n).2.1 = M.2.1 := by unfold mSh; split <;> rfl
def mNoAdd (z : Nat → Int32) (n : Nat) (v : Int32) : Int32 := if isDig v 1 9 = true then (if 0 < z 87 then 2 else if n = 20 then 2 else 0) else 1
def mNoRem (z : Nat → Int32) (n : Nat) (x : Int32) : Int32 := if mHas n x = true then (if z 87 ≤ 0 then 0 else 2) else 1
def rmStep (k t : Nat) (z : Nat → Int32) : Nat → Int32 := upd (upd z (1 + (k + t)) (z (1 + (k + t) + 1))) (21 + (k + t)) (upd z (1 + (k + t)) (z (1 + (k + t) + 1)) (21 + (k + t) + 1))
def rmAll (z : Nat → Int32) (n k : Nat) : Nat → Int32 := itr (n - 1 - k) (rmStep k) (upd z 0 (nI (n - 1)))
def mNoCome (z : Nat → Int32) (x : Int32) : Int32 := if isDig x 0 5 = true then (if 0 < z 87 then 2 else if z (81 + x.toNatClampNeg) = 1 then 2 else 0) else 1
def mNoLeave (z : Nat → Int32) (x : Int32) : Int32 := if isDig x 0 5 = true then (if 0 < z 87 then 2 else if z (81 + x.toNatClampNeg) = 1 then 0 else 2) else 1
theorem dig_nat {x : Int32} (h : isDig x 0 5 = true) : ∃ k, k < 6 ∧ x = nI k := by
  unfold isDig at h
  simp only [Bool.and_eq_true, Bool.not_eq_true', decide_eq_false_iff_not] at h
  obtain ⟨k, hk, rfl⟩ := nI_of h.1
  refine ⟨k, ?_, rfl⟩
  by_cases hc : k < 6
  · exact hc
  · exact absurd ((nI_ltI (a := 5) (b := k) (by omega) hk).mpr (by omega)) h.2
theorem MI_work {z : Nat → Int32} {n k : Nat} {v : Int32} (h : MI z n) (hk : k < 6) (hv : v = 0 ∨ v = 1) : MI (upd z (81 + k) v) n := by
  obtain ⟨h1, h2, h3, h4⟩ := h
  refine ⟨by rw [pk_un (by omega)]; exact h1, h2, fun m hm => ?_, fun d hd => by rw [pk_un (by omega)]; exact h4 d hd⟩
  by_cases e : m = k
  · rw [e, pk_us]; exact hv
  · rw [pk_un (by omega)]; exact h3 m hm
def dlStep (y : Int32) (d : Nat) (z : Nat → Int32) : Nat → Int32 := upd z (21 + d) (if z (21 + d) = y then -1 else z (21 + d))
def dlAll (n : Nat) (y : Int32) (z : Nat → Int32) : Nat → Int32 := itr n (dlStep y) z
def mNoPlan (z : Nat → Int32) : Int32 := if 0 < z 87 then 1 else if cW (zW z) = 0 then 1 else 0
def mNoHand (z : Nat → Int32) : Int32 := if z 87 = 0 then 1 else 0
def dpStep (g : Nat → Int32) (d : Nat) (z : Nat → Int32) : Nat → Int32 := upd (upd z (41 + d) (g d)) (61 + d) (upd z (41 + d) (g d) (21 + d))
def mDoPlan (M : MS) (n : Nat) : MS := (((mSh M n)).1, upd (if mShR M n ≤ 0 then M.2.1 else itr n (dpStep ((mSh M n)).2.2.2.2.2.2.1) (M.2.1)) 87 (if mShR M n ≤ 0 then 0 else 1), ((mSh M n)).2.2.1, ((mSh M n)).2.2.2.1, ((mSh M n)).2.2.2.2.1, ((mSh M n)).2.2.2.2.2.1, ((mSh M n)).2.2.2.2.2.2.1, ((mSh M n)).2.2.2.2.2.2.2.1, ((mSh M n)).2.2.2.2.2.2.2.2.1, ((mSh M n)).2.2.2.2.2.2.2.2.2.1, ((mSh M n)).2.2.2.2.2.2.2.2.2.2.1, ((mSh M n)).2.2.2.2.2.2.2.2.2.2.2)
def hoStep (d : Nat) (q : (Nat → Int32) × Nat) : (Nat → Int32) × Nat := if q.1 (41 + d) = q.1 (61 + d) then q else (upd q.1 (21 + d) (if q.1 87 = 2 then q.1 (41 + d) else -1), if q.1 87 = 2 then q.2 + 1 else if q.1 (21 + d) < 0 then q.2 else q.2 + 1)
def hoAll (z : Nat → Int32) (n : Nat) : (Nat → Int32) × Nat := itr n hoStep (z, 0)
def hoZ (z : Nat → Int32) (n : Nat) : Nat → Int32 :=
  upd (upd (hoAll z n).1 88 ((hoAll z n).1 88 + (if (hoAll z n).1 87 = 2 then nI (hoAll z n).2 else 0))) 87 (if upd (hoAll z n).1 88 ((hoAll z n).1 88 + (if (hoAll z n).1 87 = 2 then nI (hoAll z n).2 else 0)) 87 = 2 then 0 else 2)
def coStep (d : Nat) (q : (Nat → Int32) × Nat) : (Nat → Int32) × Nat := (upd q.1 (21 + d) (q.1 (61 + d)), if q.1 (21 + d) = q.1 (61 + d) then q.2 else q.2 + 1)
def coAll (z : Nat → Int32) (n : Nat) : (Nat → Int32) × Nat := itr n coStep (z, 0)
def dvStep (d : Nat) (q : (Nat → Int32) × Int32) : (Nat → Int32) × Int32 := (upd q.1 90 (q.1 90 + (if q.1 (21 + d) < 0 then 1 else 0)), q.2 + (if q.1 (21 + d) < 0 then 0 else q.1 (1 + d)))
def dvAll (z : Nat → Int32) (n : Nat) : (Nat → Int32) × Int32 := itr n dvStep (z, 0)
def mRea (M : MS) (n k : Nat) : MS := if cW (zW M.2.1) = 0 then M else if 0 ≤ M.2.1 (21 + k) then mSh M n else M
def mReaR (M : MS) (n k : Nat) : Int32 := if cW (zW M.2.1) = 0 then 1 else if 0 ≤ M.2.1 (21 + k) then (if (mSh M n).2.2.2.2.2.2.1 k = M.2.1 (21 + k) then 0 else 3) else 2

abbrev rm_X6_share : Room := { frames := 3, cells := 0, slots := 0, locals := 69 }
set_option maxHeartbeats 4000000 in
set_option maxRecDepth 100000 in
theorem c_X6_share (l : Launch) (G : va_G) (cyI cyO : ClassId) (A : Nat → Nat) (M : MS) (n : Nat) (hM : MI M.2.1 n) : CI l G (TY cyI cyO) yX6_share wsX6_share rm_X6_share [.ref (A 0)] [mdW cyI A M] (mShR M n) [mdW cyI A (mSh M n)] := by
  refine wk_I (cc := cX6_share) (maxL := 4) (ret := (some .int)) (by decide) rfl (Nat.le_of_ble_eq_true rfl) ?_
  intro p9 e9 s9 m9 b9 t9 c9 A9 ls hx hb hr hts hown hlocks hml hK hA hD hP hl hS hnm
  have hl : lv_has ls 4 [(0, .ref (A 0))] := hl
  have hinX6 : ∀ w ∈ wsX60, w ∈ wsX6_share := by decide +kernel
  have hf19 := hts (.fieldLink RX6 19 "DoorstepRoundsModel" "goal" "[I") (by decide +kernel)
  have hf7 := hts (.fieldLink RX6 7 "DoorstepRoundsModel" "z" "[I") (by decide +kernel)
  have hz : M.2.1 0 = nI n := hM.1
  have hn : n ≤ 20 := hM.2.1
  have hWk := hM.2.2.1
  have hOw := hM.2.2.2
  have hw6 := cW_le (zW M.2.1)
  refine lv_aload_n hx hb dX6_share_0 rfl (lv_at hl 0 rfl) ?_
  refine gVi (gs := [mdW cyI A M]) (As := []) (rest := []) ⟨hx, hb, hml, hown, hts⟩ (c_X6_men l G cyI cyO A M n hM) (cwV 0 hts gX6_share_X6_men rfl rfl rfl (by decide +kernel) ⟨Nat.le_of_ble_eq_true rfl, Nat.le_of_ble_eq_true rfl⟩) hK hP hD hS hA [0] rfl rfl rfl 0 6 rfl rfl rfl hl.1 rfl (Nat.le_of_ble_eq_true rfl) dX6_share_1 ⟨Nat.le_refl _, Nat.le_refl _⟩ (fun H locs hP hD hS => ?_)
  have hP : va_P G vwCl (cat [mdW cyI A M]) H := hP
  have hD : va_D A9 (cat [mdW cyI A M]) := hD
  refine lv_if_ne (tgt := 34) hx hb dX6_share_4 (by decide) (fun c_4 => ?_) (fun c_4 => ?_)
  · have c_4 : ¬ (cW (zW M.2.1)) = (0) := fun h9 => c_4 ((nI_eq (a := cW (zW M.2.1)) (b := 0) (by omega) (by omega)).mpr h9)
    refine lv_aload_n hx hb dX6_share_34 rfl (lv_at hl 0 rfl) ?_
    refine gVv (gs := [mdW cyI A M]) (As := []) (rest := []) ⟨hx, hb, hml, hown, hts⟩ (c_X6_findQuotas l G cyI cyO A M n hM) (cwV 0 hts gX6_share_X6_findQuotas rfl rfl rfl (by decide +kernel) ⟨Nat.le_of_ble_eq_true rfl, Nat.le_of_ble_eq_true rfl⟩) hK hP hD hS hA [0] rfl rfl rfl 0 6 rfl rfl rfl hl.1 rfl (Nat.le_of_ble_eq_true rfl) dX6_share_35 ⟨Nat.le_refl _, Nat.le_refl _⟩ (fun H locs hP hD hS => ?_)
    have hP : va_P G vwCl (cat [mdW cyI A ((M.1, M.2.1, M.2.2.1, M.2.2.2.1, M.2.2.2.2.1, M.2.2.2.2.2.1, M.2.2.2.2.2.2.1, (itr 6 (fqStep M.2.1 n) (M.2.2.2.2.2.2.2.1, M.2.2.2.2.2.2.2.2.1, M.2.2.2.2.2.2.2.2.2.1)).1, (itr 6 (fqStep M.2.1 n) (M.2.2.2.2.2.2.2.1, M.2.2.2.2.2.2.2.2.1, M.2.2.2.2.2.2.2.2.2.1)).2.1, (itr 6 (fqStep M.2.1 n) (M.2.2.2.2.2.2.2.1, M.2.2.2.2.2.2.2.2.1, M.2.2.2.2.2.2.2.2.2.1)).2.2, M.2.2.2.2.2.2.2.2.2.2.1, M.2.2.2.2.2.2.2.2.2.2.2))]) H := hP
    have hD : va_D A9 (cat [mdW cyI A ((M.1, M.2.1, M.2.2.1, M.2.2.2.1, M.2.2.2.2.1, M.2.2.2.2.2.1, M.2.2.2.2.2.2.1, (itr 6 (fqStep M.2.1 n) (M.2.2.2.2.2.2.2.1, M.2.2.2.2.2.2.2.2.1, M.2.2.2.2.2.2.2.2.2.1)).1, (itr 6 (fqStep M.2.1 n) (M.2.2.2.2.2.2.2.1, M.2.2.2.2.2.2.2.2.1, M.2.2.2.2.2.2.2.2.2.1)).2.1, (itr 6 (fqStep M.2.1 n) (M.2.2.2.2.2.2.2.1, M.2.2.2.2.2.2.2.2.1, M.2.2.2.2.2.2.2.2.2.1)).2.2, M.2.2.2.2.2.2.2.2.2.2.1, M.2.2.2.2.2.2.2.2.2.2.2))]) := hD
    refine lv_aload_n hx hb dX6_share_38 rfl (lv_at hl 0 rfl) ?_
    refine gVv (gs := [mdW cyI A ((M.1, M.2.1, M.2.2.1, M.2.2.2.1, M.2.2.2.2.1, M.2.2.2.2.2.1, M.2.2.2.2.2.2.1, (mFq M n).1, (mFq M n).2.1, (mFq M n).2.2, M.2.2.2.2.2.2.2.2.2.2.1, M.2.2.2.2.2.2.2.2.2.2.2))]) (As := []) (rest := []) ⟨hx, hb, hml, hown, hts⟩ (c_X6_keepOwn l G cyI cyO A ((M.1, M.2.1, M.2.2.1, M.2.2.2.1, M.2.2.2.2.1, M.2.2.2.2.2.1, M.2.2.2.2.2.2.1, (mFq M n).1, (mFq M n).2.1, (mFq M n).2.2, M.2.2.2.2.2.2.2.2.2.2.1, M.2.2.2.2.2.2.2.2.2.2.2)) n hM) (cwV 0 hts gX6_share_X6_keepOwn rfl rfl rfl (by decide +kernel) ⟨Nat.le_of_ble_eq_true rfl, Nat.le_of_ble_eq_true rfl⟩) hK hP hD hS hA [0] rfl rfl rfl 0 6 rfl rfl rfl hl.1 rfl (Nat.le_of_ble_eq_true rfl) dX6_share_39 ⟨Nat.le_refl _, Nat.le_refl _⟩ (fun H locs hP hD hS => ?_)
    have hP : va_P G vwCl (cat [mdW cyI A ((M.1, M.2.1, M.2.2.1, M.2.2.2.1, M.2.2.2.2.1, M.2.2.2.2.2.1, (koAll M.2.1 n ((mFq M n).1) (M.2.2.2.2.2.2.1, ((mFq M n).2.1), ((mFq M n).2.2))).1, ((mFq M n).1), (koAll M.2.1 n ((mFq M n).1) (M.2.2.2.2.2.2.1, ((mFq M n).2.1), ((mFq M n).2.2))).2.1, (koAll M.2.1 n ((mFq M n).1) (M.2.2.2.2.2.2.1, ((mFq M n).2.1), ((mFq M n).2.2))).2.2, M.2.2.2.2.2.2.2.2.2.2.1, M.2.2.2.2.2.2.2.2.2.2.2))]) H := hP
    have hD : va_D A9 (cat [mdW cyI A ((M.1, M.2.1, M.2.2.1, M.2.2.2.1, M.2.2.2.2.1, M.2.2.2.2.2.1, (koAll M.2.1 n ((mFq M n).1) (M.2.2.2.2.2.2.1, ((mFq M n).2.1), ((mFq M n).2.2))).1, ((mFq M n).1), (koAll M.2.1 n ((mFq M n).1) (M.2.2.2.2.2.2.1, ((mFq M n).2.1), ((mFq M n).2.2))).2.1, (koAll M.2.1 n ((mFq M n).1) (M.2.2.2.2.2.2.1, ((mFq M n).2.1), ((mFq M n).2.2))).2.2, M.2.2.2.2.2.2.2.2.2.2.1, M.2.2.2.2.2.2.2.2.2.2.2))]) := hD
    refine lv_aload_n hx hb dX6_share_42 rfl (lv_at hl 0 rfl) ?_
    refine gVi (gs := [mdW cyI A ((M.1, M.2.1, M.2.2.1, M.2.2.2.1, M.2.2.2.2.1, M.2.2.2.2.2.1, (koAll M.2.1 n ((mFq M n).1) (M.2.2.2.2.2.2.1, ((mFq M n).2.1), ((mFq M n).2.2))).1, ((mFq M n).1), (koAll M.2.1 n ((mFq M n).1) (M.2.2.2.2.2.2.1, ((mFq M n).2.1), ((mFq M n).2.2))).2.1, (koAll M.2.1 n ((mFq M n).1) (M.2.2.2.2.2.2.1, ((mFq M n).2.1), ((mFq M n).2.2))).2.2, M.2.2.2.2.2.2.2.2.2.2.1, M.2.2.2.2.2.2.2.2.2.2.2))]) (As := []) (rest := []) ⟨hx, hb, hml, hown, hts⟩ (c_X6_nextDoor l G cyI cyO A ((M.1, M.2.1, M.2.2.1, M.2.2.2.1, M.2.2.2.2.1, M.2.2.2.2.2.1, (koAll M.2.1 n ((mFq M n).1) (M.2.2.2.2.2.2.1, ((mFq M n).2.1), ((mFq M n).2.2))).1, ((mFq M n).1), (koAll M.2.1 n ((mFq M n).1) (M.2.2.2.2.2.2.1, ((mFq M n).2.1), ((mFq M n).2.2))).2.1, (koAll M.2.1 n ((mFq M n).1) (M.2.2.2.2.2.2.1, ((mFq M n).2.1), ((mFq M n).2.2))).2.2, M.2.2.2.2.2.2.2.2.2.2.1, M.2.2.2.2.2.2.2.2.2.2.2)) n hM) (cwV 0 hts gX6_share_X6_nextDoor rfl rfl rfl (by decide +kernel) ⟨Nat.le_of_ble_eq_true rfl, Nat.le_of_ble_eq_true rfl⟩) hK hP hD hS hA [0] rfl rfl rfl 0 6 rfl rfl rfl hl.1 rfl (Nat.le_of_ble_eq_true rfl) dX6_share_43 ⟨Nat.le_refl _, Nat.le_refl _⟩ (fun H locs hP hD hS => ?_)
    have hP : va_P G vwCl (cat [mdW cyI A ((M.1, M.2.1, M.2.2.1, M.2.2.2.1, M.2.2.2.2.1, M.2.2.2.2.2.1, (koAll M.2.1 n ((mFq M n).1) (M.2.2.2.2.2.2.1, ((mFq M n).2.1), ((mFq M n).2.2))).1, ((mFq M n).1), (koAll M.2.1 n ((mFq M n).1) (M.2.2.2.2.2.2.1, ((mFq M n).2.1), ((mFq M n).2.2))).2.1, (koAll M.2.1 n ((mFq M n).1) (M.2.2.2.2.2.2.1, ((mFq M n).2.1), ((mFq M n).2.2))).2.2, M.2.2.2.2.2.2.2.2.2.2.1, M.2.2.2.2.2.2.2.2.2.2.2))]) H := hP
    have hD : va_D A9 (cat [mdW cyI A ((M.1, M.2.1, M.2.2.1, M.2.2.2.1, M.2.2.2.2.1, M.2.2.2.2.2.1, (koAll M.2.1 n ((mFq M n).1) (M.2.2.2.2.2.2.1, ((mFq M n).2.1), ((mFq M n).2.2))).1, ((mFq M n).1), (koAll M.2.1 n ((mFq M n).1) (M.2.2.2.2.2.2.1, ((mFq M n).2.1), ((mFq M n).2.2))).2.1, (koAll M.2.1 n ((mFq M n).1) (M.2.2.2.2.2.2.1, ((mFq M n).2.1), ((mFq M n).2.2))).2.2, M.2.2.2.2.2.2.2.2.2.2.1, M.2.2.2.2.2.2.2.2.2.2.2))]) := hD
    refine lv_istore_n (lv' := [(1, .int (oI (ndAll M.2.1 ((koAll M.2.1 n ((mFq M n).1) (M.2.2.2.2.2.2.1, ((mFq M n).2.1), ((mFq M n).2.2))).1) n))), (0, .ref (A 0))]) hx hb dX6_share_46 rfl hl (by decide) rfl (fun ls hl => ?_)
    have hP : va_P G vwCl (cat [[(A 0, .inr (6, [.int (M.1), .ref (A 1), .ref (A 2), .int (nI (M.2.2.2.1)), .ref (A 3), .int (nI (M.2.2.2.2.2.1)), .ref (A 4), .ref (A 5), .ref (A 6), .ref (A 7), .int (M.2.2.2.2.2.2.2.2.2.2.1), .int (M.2.2.2.2.2.2.2.2.2.2.2)]))], [(A 1, .inl (cyI, 91, .inl (M.2.1)))], [(A 2, .inl (cyI, 546, .inl (M.2.2.1)))], [(A 3, .inl (cyI, 60, .inl (M.2.2.2.2.1)))], [(A 4, .inl (cyI, 20, .inl ((koAll M.2.1 n ((mFq M n).1) (M.2.2.2.2.2.2.1, ((mFq M n).2.1), ((mFq M n).2.2))).1)))], [(A 5, .inl (cyI, 6, .inl (((mFq M n).1))))], [(A 6, .inl (cyI, 6, .inl ((koAll M.2.1 n ((mFq M n).1) (M.2.2.2.2.2.2.1, ((mFq M n).2.1), ((mFq M n).2.2))).2.1)))], [(A 7, .inl (cyI, 6, .inl ((koAll M.2.1 n ((mFq M n).1) (M.2.2.2.2.2.2.1, ((mFq M n).2.1), ((mFq M n).2.2))).2.2)))]]) H := hP
    have hD : va_D A9 (cat [[(A 0, .inr (6, [.int (M.1), .ref (A 1), .ref (A 2), .int (nI (M.2.2.2.1)), .ref (A 3), .int (nI (M.2.2.2.2.2.1)), .ref (A 4), .ref (A 5), .ref (A 6), .ref (A 7), .int (M.2.2.2.2.2.2.2.2.2.2.1), .int (M.2.2.2.2.2.2.2.2.2.2.2)]))], [(A 1, .inl (cyI, 91, .inl (M.2.1)))], [(A 2, .inl (cyI, 546, .inl (M.2.2.1)))], [(A 3, .inl (cyI, 60, .inl (M.2.2.2.2.1)))], [(A 4, .inl (cyI, 20, .inl ((koAll M.2.1 n ((mFq M n).1) (M.2.2.2.2.2.2.1, ((mFq M n).2.1), ((mFq M n).2.2))).1)))], [(A 5, .inl (cyI, 6, .inl (((mFq M n).1))))], [(A 6, .inl (cyI, 6, .inl ((koAll M.2.1 n ((mFq M n).1) (M.2.2.2.2.2.2.1, ((mFq M n).2.1), ((mFq M n).2.2))).2.1)))], [(A 7, .inl (cyI, 6, .inl ((koAll M.2.1 n ((mFq M n).1) (M.2.2.2.2.2.2.1, ((mFq M n).2.1), ((mFq M n).2.2))).2.2)))]]) := hD
    refine W_loop (α := Nat × (Nat → Int32) × (Nat → Int32) × (Nat → Int32)) (I := fun a9 H locs ls => (CapI n (mFq M n).1 (a9.2.1, a9.2.2.1, a9.2.2.2)) ∧ (undN a9.2.1 n ≤ a9.1) ∧ (whl M.2.1 (mFq M n).1 n a9.1 (a9.2.1, a9.2.2.1, a9.2.2.2) = mWl M n) ∧ va_P G vwCl (cat [[(A 0, .inr (6, [.int (M.1), .ref (A 1), .ref (A 2), .int (nI (M.2.2.2.1)), .ref (A 3), .int (nI (M.2.2.2.2.2.1)), .ref (A 4), .ref (A 5), .ref (A 6), .ref (A 7), .int (M.2.2.2.2.2.2.2.2.2.2.1), .int (M.2.2.2.2.2.2.2.2.2.2.2)]))], [(A 1, .inl (cyI, 91, .inl (M.2.1)))], [(A 2, .inl (cyI, 546, .inl (M.2.2.1)))], [(A 3, .inl (cyI, 60, .inl (M.2.2.2.2.1)))], [(A 4, .inl (cyI, 20, .inl (a9.2.1)))], [(A 5, .inl (cyI, 6, .inl (((mFq M n).1))))], [(A 6, .inl (cyI, 6, .inl (a9.2.2.1)))], [(A 7, .inl (cyI, 6, .inl (a9.2.2.2)))]]) H ∧ va_D A9 (cat [[(A 0, .inr (6, [.int (M.1), .ref (A 1), .ref (A 2), .int (nI (M.2.2.2.1)), .ref (A 3), .int (nI (M.2.2.2.2.2.1)), .ref (A 4), .ref (A 5), .ref (A 6), .ref (A 7), .int (M.2.2.2.2.2.2.2.2.2.2.1), .int (M.2.2.2.2.2.2.2.2.2.2.2)]))], [(A 1, .inl (cyI, 91, .inl (M.2.1)))], [(A 2, .inl (cyI, 546, .inl (M.2.2.1)))], [(A 3, .inl (cyI, 60, .inl (M.2.2.2.2.1)))], [(A 4, .inl (cyI, 20, .inl (a9.2.1)))], [(A 5, .inl (cyI, 6, .inl (((mFq M n).1))))], [(A 6, .inl (cyI, 6, .inl (a9.2.2.1)))], [(A 7, .inl (cyI, 6, .inl (a9.2.2.2)))]]) ∧ va_S A9 s9.heap H locs ∧ lv_has ls 4 [(1, .int (oI (ndAll M.2.1 a9.2.1 n))), (0, .ref (A 0))]) (μ := fun a9 => a9.1) (st := fun a9 => []) ?_ (n, (mKo M n).1, (mKo M n).2.1, (mKo M n).2.2) _ _ _ ⟨(show CapI n (mFq M n).1 (((mKo M n).1), ((mKo M n).2.1), ((mKo M n).2.2)) from cap_start hM (by omega)), (show undN ((mKo M n).1) n ≤ n from undN_le _ _), (show whl M.2.1 (mFq M n).1 n n (((mKo M n).1), ((mKo M n).2.1), ((mKo M n).2.2)) = mWl M n from rfl), hP, hD, hS, lv_sub hl [0, 1] rfl⟩
    intro a9 ih_47 H locs ls hI
    obtain ⟨k, g1, v1, p1⟩ := a9
    obtain ⟨hC9, hu9, hw9, hP9, hD9, hS9, hl9⟩ := hI
    have hC : CapI n (mFq M n).1 (g1, v1, p1) := hC9
    have hu : undN g1 n ≤ k := hu9
    have hw : whl M.2.1 (mFq M n).1 n k (g1, v1, p1) = mWl M n := hw9
    have hP : va_P G vwCl (cat [[(A 0, .inr (6, [.int (M.1), .ref (A 1), .ref (A 2), .int (nI (M.2.2.2.1)), .ref (A 3), .int (nI (M.2.2.2.2.2.1)), .ref (A 4), .ref (A 5), .ref (A 6), .ref (A 7), .int (M.2.2.2.2.2.2.2.2.2.2.1), .int (M.2.2.2.2.2.2.2.2.2.2.2)]))], [(A 1, .inl (cyI, 91, .inl (M.2.1)))], [(A 2, .inl (cyI, 546, .inl (M.2.2.1)))], [(A 3, .inl (cyI, 60, .inl (M.2.2.2.2.1)))], [(A 4, .inl (cyI, 20, .inl (g1)))], [(A 5, .inl (cyI, 6, .inl (((mFq M n).1))))], [(A 6, .inl (cyI, 6, .inl (v1)))], [(A 7, .inl (cyI, 6, .inl (p1)))]]) H := hP9
    have hD : va_D A9 (cat [[(A 0, .inr (6, [.int (M.1), .ref (A 1), .ref (A 2), .int (nI (M.2.2.2.1)), .ref (A 3), .int (nI (M.2.2.2.2.2.1)), .ref (A 4), .ref (A 5), .ref (A 6), .ref (A 7), .int (M.2.2.2.2.2.2.2.2.2.2.1), .int (M.2.2.2.2.2.2.2.2.2.2.2)]))], [(A 1, .inl (cyI, 91, .inl (M.2.1)))], [(A 2, .inl (cyI, 546, .inl (M.2.2.1)))], [(A 3, .inl (cyI, 60, .inl (M.2.2.2.2.1)))], [(A 4, .inl (cyI, 20, .inl (g1)))], [(A 5, .inl (cyI, 6, .inl (((mFq M n).1))))], [(A 6, .inl (cyI, 6, .inl (v1)))], [(A 7, .inl (cyI, 6, .inl (p1)))]]) := hD9
    have hS := hS9
    have hl : lv_has ls 4 [(1, .int (oI (ndAll M.2.1 g1 n))), (0, .ref (A 0))] := hl9
    clear hC9 hu9 hw9 hP9 hD9 hS9 hl9
    refine lv_iload_n hx hb dX6_share_47 rfl (lv_at hl 0 rfl) ?_
    refine lv_if_lt (tgt := 68) hx hb dX6_share_48 (by decide) (fun c_48 => ?_) (fun c_48 => ?_)
    · have hnone : ndAll M.2.1 g1 n = none := oI_neg (fun j h => by have := ndAll_some n j h; omega) c_48
      have hfin : (g1, v1, p1) = mWl M n := (whl_none hnone).symm.trans hw
      have e1 : g1 = (mWl M n).1 := congrArg (fun q => q.1) hfin
      have e2 : v1 = (mWl M n).2.1 := congrArg (fun q => q.2.1) hfin
      have e3 : p1 = (mWl M n).2.2 := congrArg (fun q => q.2.2) hfin
      subst e1 e2 e3
      refine lv_iconst (v := (0 : Int32)) hx hb dX6_share_68 (by decide) ?_
      refine lv_istore_n (lv' := [(2, .int ((0 : Int32))), (1, .int (oI (ndAll M.2.1 ((mWl M n).1) n))), (0, .ref (A 0))]) hx hb dX6_share_69 rfl hl (by decide) rfl (fun ls hl => ?_)
      refine lv_iconst (v := (0 : Int32)) hx hb dX6_share_70 (by decide) ?_
      refine lv_istore_n (lv' := [(3, .int ((0 : Int32))), (2, .int ((0 : Int32))), (1, .int (oI (ndAll M.2.1 ((mWl M n).1) n))), (0, .ref (A 0))]) hx hb dX6_share_71 rfl hl (by decide) rfl (fun ls hl => ?_)
      refine W_loop (α := Nat × Nat) (I := fun a9 H locs ls => (a9.1 ≤ n) ∧ (a9.2 = itr a9.1 (ccStep (mWl M n).1 (zO M.2.1)) 0) ∧ va_P G vwCl (cat [[(A 0, .inr (6, [.int (M.1), .ref (A 1), .ref (A 2), .int (nI (M.2.2.2.1)), .ref (A 3), .int (nI (M.2.2.2.2.2.1)), .ref (A 4), .ref (A 5), .ref (A 6), .ref (A 7), .int (M.2.2.2.2.2.2.2.2.2.2.1), .int (M.2.2.2.2.2.2.2.2.2.2.2)]))], [(A 1, .inl (cyI, 91, .inl (M.2.1)))], [(A 2, .inl (cyI, 546, .inl (M.2.2.1)))], [(A 3, .inl (cyI, 60, .inl (M.2.2.2.2.1)))], [(A 4, .inl (cyI, 20, .inl ((mWl M n).1)))], [(A 5, .inl (cyI, 6, .inl (((mFq M n).1))))], [(A 6, .inl (cyI, 6, .inl ((mWl M n).2.1)))], [(A 7, .inl (cyI, 6, .inl ((mWl M n).2.2)))]]) H ∧ va_D A9 (cat [[(A 0, .inr (6, [.int (M.1), .ref (A 1), .ref (A 2), .int (nI (M.2.2.2.1)), .ref (A 3), .int (nI (M.2.2.2.2.2.1)), .ref (A 4), .ref (A 5), .ref (A 6), .ref (A 7), .int (M.2.2.2.2.2.2.2.2.2.2.1), .int (M.2.2.2.2.2.2.2.2.2.2.2)]))], [(A 1, .inl (cyI, 91, .inl (M.2.1)))], [(A 2, .inl (cyI, 546, .inl (M.2.2.1)))], [(A 3, .inl (cyI, 60, .inl (M.2.2.2.2.1)))], [(A 4, .inl (cyI, 20, .inl ((mWl M n).1)))], [(A 5, .inl (cyI, 6, .inl (((mFq M n).1))))], [(A 6, .inl (cyI, 6, .inl ((mWl M n).2.1)))], [(A 7, .inl (cyI, 6, .inl ((mWl M n).2.2)))]]) ∧ va_S A9 s9.heap H locs ∧ lv_has ls 4 [(3, .int (nI (a9.1))), (2, .int (nI (a9.2))), (1, .int (oI (ndAll M.2.1 ((mWl M n).1) n))), (0, .ref (A 0))]) (μ := fun a9 => n - a9.1) (st := fun a9 => []) ?_ (0, 0) _ _ _ ⟨(show 0 ≤ n from by omega), (show 0 = itr 0 (ccStep (mWl M n).1 (zO M.2.1)) 0 from rfl), hP, hD, hS, lv_sub hl [0, 1, 2, 3] rfl⟩
      intro a9 ih_72 H locs ls hI
      obtain ⟨i, x⟩ := a9
      obtain ⟨hi9, he9, hP9, hD9, hS9, hl9⟩ := hI
      have hi : i ≤ n := hi9
      have he : x = itr i (ccStep (mWl M n).1 (zO M.2.1)) 0 := he9
      have hP : va_P G vwCl (cat [[(A 0, .inr (6, [.int (M.1), .ref (A 1), .ref (A 2), .int (nI (M.2.2.2.1)), .ref (A 3), .int (nI (M.2.2.2.2.2.1)), .ref (A 4), .ref (A 5), .ref (A 6), .ref (A 7), .int (M.2.2.2.2.2.2.2.2.2.2.1), .int (M.2.2.2.2.2.2.2.2.2.2.2)]))], [(A 1, .inl (cyI, 91, .inl (M.2.1)))], [(A 2, .inl (cyI, 546, .inl (M.2.2.1)))], [(A 3, .inl (cyI, 60, .inl (M.2.2.2.2.1)))], [(A 4, .inl (cyI, 20, .inl ((mWl M n).1)))], [(A 5, .inl (cyI, 6, .inl (((mFq M n).1))))], [(A 6, .inl (cyI, 6, .inl ((mWl M n).2.1)))], [(A 7, .inl (cyI, 6, .inl ((mWl M n).2.2)))]]) H := hP9
      have hD : va_D A9 (cat [[(A 0, .inr (6, [.int (M.1), .ref (A 1), .ref (A 2), .int (nI (M.2.2.2.1)), .ref (A 3), .int (nI (M.2.2.2.2.2.1)), .ref (A 4), .ref (A 5), .ref (A 6), .ref (A 7), .int (M.2.2.2.2.2.2.2.2.2.2.1), .int (M.2.2.2.2.2.2.2.2.2.2.2)]))], [(A 1, .inl (cyI, 91, .inl (M.2.1)))], [(A 2, .inl (cyI, 546, .inl (M.2.2.1)))], [(A 3, .inl (cyI, 60, .inl (M.2.2.2.2.1)))], [(A 4, .inl (cyI, 20, .inl ((mWl M n).1)))], [(A 5, .inl (cyI, 6, .inl (((mFq M n).1))))], [(A 6, .inl (cyI, 6, .inl ((mWl M n).2.1)))], [(A 7, .inl (cyI, 6, .inl ((mWl M n).2.2)))]]) := hD9
      have hS := hS9
      have hl : lv_has ls 4 [(3, .int (nI (i))), (2, .int (nI (x))), (1, .int (oI (ndAll M.2.1 ((mWl M n).1) n))), (0, .ref (A 0))] := hl9
      clear hi9 he9 hP9 hD9 hS9 hl9
      refine lv_iload_n hx hb dX6_share_72 rfl (lv_at hl 0 rfl) ?_
      refine lv_aload_n hx hb dX6_share_73 rfl (lv_at hl 3 rfl) ?_
      refine va_get (v := .ref (A 1)) (C := RX6) (T := TX6) (N := 12) hx hb hts hinX6 hown hK hP 0 rfl rfl 1 (by decide) hf7 (fun _ h9 => h9) rfl dX6_share_74 ?_
      refine lv_iconst (v := (0 : Int32)) hx hb dX6_share_77 (by decide) ?_
      refine r_ild (k := 0) (n := 91) (f := M.2.1) hx hb hK hP 1 0 rfl rfl (by omega) (by omega) rfl dX6_share_78 ?_
      refine top_i (x' := nI (n)) (hz) ?_
      refine lv_icmp_ge (tgt := 114) hx hb dX6_share_79 (by decide) (fun c_79 => ?_) (fun c_79 => ?_)
      · have c_79 : (n) ≤ (i) := (nI_leI (a := n) (b := i) (by omega) (by omega)).mp c_79
        obtain rfl : n = i := by omega
        refine lv_iload_n hx hb dX6_share_114 rfl (lv_at hl 1 rfl) ?_
        have hgo : cat [[(A 0, .inr (6, [.int (M.1), .ref (A 1), .ref (A 2), .int (nI (M.2.2.2.1)), .ref (A 3), .int (nI (M.2.2.2.2.2.1)), .ref (A 4), .ref (A 5), .ref (A 6), .ref (A 7), .int (M.2.2.2.2.2.2.2.2.2.2.1), .int (M.2.2.2.2.2.2.2.2.2.2.2)]))], [(A 1, .inl (cyI, 91, .inl (M.2.1)))], [(A 2, .inl (cyI, 546, .inl (M.2.2.1)))], [(A 3, .inl (cyI, 60, .inl (M.2.2.2.2.1)))], [(A 4, .inl (cyI, 20, .inl ((mWl M n).1)))], [(A 5, .inl (cyI, 6, .inl (((mFq M n).1))))], [(A 6, .inl (cyI, 6, .inl ((mWl M n).2.1)))], [(A 7, .inl (cyI, 6, .inl ((mWl M n).2.2)))]] = cat [mdW cyI A (mSh M n)] := by rw [show mSh M n = _ from if_neg c_4]; rfl
        rw [hgo] at hP hD
        have hP : va_P G vwCl (cat [mdW cyI A (mSh M n)]) H := hP
        have hD : va_D A9 (cat [mdW cyI A (mSh M n)]) := hD
        exact end_i hx hb hr hlocks hK hP hD hS (by rw [he]; exact (if_neg c_4).symm) dX6_share_115
      · have c_79 : ¬ (n) ≤ (i) := fun h9 => c_79 ((nI_leI (a := n) (b := i) (by omega) (by omega)).mpr h9)
        refine lv_iload_n hx hb dX6_share_82 rfl (lv_at hl 1 rfl) ?_
        refine lv_aload_n hx hb dX6_share_83 rfl (lv_at hl 3 rfl) ?_
        refine va_get (v := .ref (A 4)) (C := RX6) (T := TX6) (N := 12) hx hb hts hinX6 hown hK hP 0 rfl rfl 6 (by decide) hf19 (fun _ h9 => h9) rfl dX6_share_84 ?_
        refine lv_iload_n hx hb dX6_share_87 rfl (lv_at hl 0 rfl) ?_
        refine r_ild (k := i) (n := 20) (f := (mWl M n).1) hx hb hK hP 4 0 rfl rfl (by omega) (by omega) rfl dX6_share_88 ?_
        refine lv_aload_n hx hb dX6_share_89 rfl (lv_at hl 3 rfl) ?_
        refine va_get (v := .ref (A 1)) (C := RX6) (T := TX6) (N := 12) hx hb hts hinX6 hown hK hP 0 rfl rfl 1 (by decide) hf7 (fun _ h9 => h9) rfl dX6_share_90 ?_
        refine lv_bipush (v := (21 : Int32)) hx hb dX6_share_93 (by decide) ?_
        refine lv_iload_n hx hb dX6_share_95 rfl (lv_at hl 0 rfl) ?_
        refine lv_iadd hx hb dX6_share_96 ?_
        refine top_i (x' := nI (21 + i)) (nI_add (21) (i)) ?_
        refine r_ild (k := 21 + i) (n := 91) (f := M.2.1) hx hb hK hP 1 0 rfl rfl (by omega) (by omega) rfl dX6_share_97 ?_
        refine lv_icmp_eq (tgt := 105) hx hb dX6_share_98 (by decide) (fun c_98 => ?_) (fun c_98 => ?_)
        · refine lv_iconst (v := (0 : Int32)) hx hb dX6_share_105 (by decide) ?_
          refine lv_iadd hx hb dX6_share_106 ?_
          refine top_i (x' := nI (x + 0)) (nI_add (x) (0)) ?_
          refine lv_istore_n (lv' := [(2, .int (nI (x + 0))), (3, .int (nI (i))), (1, .int (oI (ndAll M.2.1 ((mWl M n).1) n))), (0, .ref (A 0))]) hx hb dX6_share_107 rfl hl (by decide) rfl (fun ls hl => ?_)
          refine lv_iinc (v := nI (i + 1)) (lv' := [(3, .int (nI (i + 1))), (2, .int (nI (x + 0))), (1, .int (oI (ndAll M.2.1 ((mWl M n).1) n))), (0, .ref (A 0))]) hx hb dX6_share_108 hl (k := 1) rfl (nI_add _ _) (by decide) rfl (fun ls hl => ?_)
          refine lv_goto (tgt := 72) hx hb dX6_share_111 (by decide) ?_
          exact ih_72 (i + 1, x + 0) (by show (n - (i + 1)) < (n - i); omega) _ _ _ ⟨(show (i + 1) ≤ n from by omega), (show (x + 0) = itr (i + 1) (ccStep (mWl M n).1 (zO M.2.1)) 0 from by show _ = ccStep _ _ i (itr i _ _); rw [← he]; simp [ccStep, zO, zP, zW, c_4, c_48, c_79, c_98]), hP, hD, hS, lv_sub hl [0, 1, 2, 3] rfl⟩
        · refine lv_iconst (v := (1 : Int32)) hx hb dX6_share_101 (by decide) ?_
          refine lv_goto (tgt := 106) hx hb dX6_share_102 (by decide) ?_
          refine lv_iadd hx hb dX6_share_106 ?_
          refine top_i (x' := nI (x + 1)) (nI_add (x) (1)) ?_
          refine lv_istore_n (lv' := [(2, .int (nI (x + 1))), (3, .int (nI (i))), (1, .int (oI (ndAll M.2.1 ((mWl M n).1) n))), (0, .ref (A 0))]) hx hb dX6_share_107 rfl hl (by decide) rfl (fun ls hl => ?_)
          refine lv_iinc (v := nI (i + 1)) (lv' := [(3, .int (nI (i + 1))), (2, .int (nI (x + 1))), (1, .int (oI (ndAll M.2.1 ((mWl M n).1) n))), (0, .ref (A 0))]) hx hb dX6_share_108 hl (k := 1) rfl (nI_add _ _) (by decide) rfl (fun ls hl => ?_)
          refine lv_goto (tgt := 72) hx hb dX6_share_111 (by decide) ?_
          exact ih_72 (i + 1, x + 1) (by show (n - (i + 1)) < (n - i); omega) _ _ _ ⟨(show (i + 1) ≤ n from by omega), (show (x + 1) = itr (i + 1) (ccStep (mWl M n).1 (zO M.2.1)) 0 from by show _ = ccStep _ _ i (itr i _ _); rw [← he]; simp [ccStep, zO, zP, zW, c_4, c_48, c_79, c_98]), hP, hD, hS, lv_sub hl [0, 1, 2, 3] rfl⟩
    · obtain ⟨d, hd⟩ := oI_pos c_48
      obtain ⟨m, hm, hm6, hd1, hC2, hu2⟩ := cap_step hC hd
      have hu3 : undN (upd g1 d (nI m)) n + 1 = undN g1 n := hu2
      rw [hd] at hl
      have hl : lv_has ls 4 [(1, .int (nI (d))), (0, .ref (A 0))] := hl
      refine lv_aload_n hx hb dX6_share_51 rfl (lv_at hl 1 rfl) ?_
      refine lv_iload_n hx hb dX6_share_52 rfl (lv_at hl 0 rfl) ?_
      refine lv_aload_n hx hb dX6_share_53 rfl (lv_at hl 1 rfl) ?_
      have hP : va_P G vwCl (cat [mdW cyI A ((M.1, M.2.1, M.2.2.1, M.2.2.2.1, M.2.2.2.2.1, M.2.2.2.2.2.1, g1, ((mFq M n).1), v1, p1, M.2.2.2.2.2.2.2.2.2.2.1, M.2.2.2.2.2.2.2.2.2.2.2))]) H := hP
      have hD : va_D A9 (cat [mdW cyI A ((M.1, M.2.1, M.2.2.1, M.2.2.2.1, M.2.2.2.2.1, M.2.2.2.2.2.1, g1, ((mFq M n).1), v1, p1, M.2.2.2.2.2.2.2.2.2.2.1, M.2.2.2.2.2.2.2.2.2.2.2))]) := hD
      refine gVi (gs := [mdW cyI A ((M.1, M.2.1, M.2.2.1, M.2.2.2.1, M.2.2.2.2.1, M.2.2.2.2.2.1, g1, ((mFq M n).1), v1, p1, M.2.2.2.2.2.2.2.2.2.2.1, M.2.2.2.2.2.2.2.2.2.2.2))]) (As := []) (rest := [.int (nI (d)), .ref (A 0)]) ⟨hx, hb, hml, hown, hts⟩ (c_X6_nextMan l G cyI cyO A ((M.1, M.2.1, M.2.2.1, M.2.2.2.1, M.2.2.2.2.1, M.2.2.2.2.2.1, g1, ((mFq M n).1), v1, p1, M.2.2.2.2.2.2.2.2.2.2.1, M.2.2.2.2.2.2.2.2.2.2.2)) n hM) (cwV 0 hts gX6_share_X6_nextMan rfl rfl rfl (by decide +kernel) ⟨Nat.le_of_ble_eq_true rfl, Nat.le_of_ble_eq_true rfl⟩) hK hP hD hS hA [0] rfl rfl rfl 0 6 rfl rfl rfl hl.1 rfl (Nat.le_of_ble_eq_true rfl) dX6_share_54 ⟨Nat.le_refl _, Nat.le_refl _⟩ (fun H locs hP hD hS => ?_)
      have hP : va_P G vwCl (cat [mdW cyI A ((M.1, M.2.1, M.2.2.1, M.2.2.2.1, M.2.2.2.2.1, M.2.2.2.2.2.1, g1, ((mFq M n).1), v1, p1, M.2.2.2.2.2.2.2.2.2.2.1, M.2.2.2.2.2.2.2.2.2.2.2))]) H := hP
      have hD : va_D A9 (cat [mdW cyI A ((M.1, M.2.1, M.2.2.1, M.2.2.2.1, M.2.2.2.2.1, M.2.2.2.2.2.1, g1, ((mFq M n).1), v1, p1, M.2.2.2.2.2.2.2.2.2.2.1, M.2.2.2.2.2.2.2.2.2.2.2))]) := hD
      refine top_i (x' := nI (m)) (congrArg oI hm) ?_
      refine gVv (gs := [mdW cyI A ((M.1, M.2.1, M.2.2.1, M.2.2.2.1, M.2.2.2.2.1, M.2.2.2.2.2.1, g1, ((mFq M n).1), v1, p1, M.2.2.2.2.2.2.2.2.2.2.1, M.2.2.2.2.2.2.2.2.2.2.2))]) (As := [.int (nI (d)), .int (nI (m))]) (rest := []) ⟨hx, hb, hml, hown, hts⟩ (c_X6_give l G cyI cyO A ((M.1, M.2.1, M.2.2.1, M.2.2.2.1, M.2.2.2.2.1, M.2.2.2.2.2.1, g1, ((mFq M n).1), v1, p1, M.2.2.2.2.2.2.2.2.2.2.1, M.2.2.2.2.2.2.2.2.2.2.2)) n hM d m (by omega) (by omega)) (cwV 2 hts gX6_share_X6_give rfl rfl rfl (by decide +kernel) ⟨Nat.le_of_ble_eq_true rfl, Nat.le_of_ble_eq_true rfl⟩) hK hP hD hS hA [0] rfl rfl rfl 0 6 rfl rfl rfl hl.1 rfl (Nat.le_of_ble_eq_true rfl) dX6_share_57 ⟨Nat.le_refl _, Nat.le_refl _⟩ (fun H locs hP hD hS => ?_)
      have hP : va_P G vwCl (cat [mdW cyI A ((M.1, M.2.1, M.2.2.1, M.2.2.2.1, M.2.2.2.2.1, M.2.2.2.2.2.1, upd g1 d (nI m), (((mFq M n).1)), upd v1 m (v1 m + 1), upd p1 m (p1 m + M.2.1 (1 + d)), M.2.2.2.2.2.2.2.2.2.2.1, M.2.2.2.2.2.2.2.2.2.2.2))]) H := hP
      have hD : va_D A9 (cat [mdW cyI A ((M.1, M.2.1, M.2.2.1, M.2.2.2.1, M.2.2.2.2.1, M.2.2.2.2.2.1, upd g1 d (nI m), (((mFq M n).1)), upd v1 m (v1 m + 1), upd p1 m (p1 m + M.2.1 (1 + d)), M.2.2.2.2.2.2.2.2.2.2.1, M.2.2.2.2.2.2.2.2.2.2.2))]) := hD
      refine lv_aload_n hx hb dX6_share_60 rfl (lv_at hl 1 rfl) ?_
      refine gVi (gs := [mdW cyI A ((M.1, M.2.1, M.2.2.1, M.2.2.2.1, M.2.2.2.2.1, M.2.2.2.2.2.1, upd g1 d (nI m), (((mFq M n).1)), upd v1 m (v1 m + 1), upd p1 m (p1 m + M.2.1 (1 + d)), M.2.2.2.2.2.2.2.2.2.2.1, M.2.2.2.2.2.2.2.2.2.2.2))]) (As := []) (rest := []) ⟨hx, hb, hml, hown, hts⟩ (c_X6_nextDoor l G cyI cyO A ((M.1, M.2.1, M.2.2.1, M.2.2.2.1, M.2.2.2.2.1, M.2.2.2.2.2.1, upd g1 d (nI m), (((mFq M n).1)), upd v1 m (v1 m + 1), upd p1 m (p1 m + M.2.1 (1 + d)), M.2.2.2.2.2.2.2.2.2.2.1, M.2.2.2.2.2.2.2.2.2.2.2)) n hM) (cwV 0 hts gX6_share_X6_nextDoor rfl rfl rfl (by decide +kernel) ⟨Nat.le_of_ble_eq_true rfl, Nat.le_of_ble_eq_true rfl⟩) hK hP hD hS hA [0] rfl rfl rfl 0 6 rfl rfl rfl hl.1 rfl (Nat.le_of_ble_eq_true rfl) dX6_share_61 ⟨Nat.le_refl _, Nat.le_refl _⟩ (fun H locs hP hD hS => ?_)
      have hP : va_P G vwCl (cat [mdW cyI A ((M.1, M.2.1, M.2.2.1, M.2.2.2.1, M.2.2.2.2.1, M.2.2.2.2.2.1, upd g1 d (nI m), (((mFq M n).1)), upd v1 m (v1 m + 1), upd p1 m (p1 m + M.2.1 (1 + d)), M.2.2.2.2.2.2.2.2.2.2.1, M.2.2.2.2.2.2.2.2.2.2.2))]) H := hP
      have hD : va_D A9 (cat [mdW cyI A ((M.1, M.2.1, M.2.2.1, M.2.2.2.1, M.2.2.2.2.1, M.2.2.2.2.2.1, upd g1 d (nI m), (((mFq M n).1)), upd v1 m (v1 m + 1), upd p1 m (p1 m + M.2.1 (1 + d)), M.2.2.2.2.2.2.2.2.2.2.1, M.2.2.2.2.2.2.2.2.2.2.2))]) := hD
      refine lv_istore_n (lv' := [(1, .int (oI (ndAll M.2.1 (upd g1 d (nI m)) n))), (0, .ref (A 0))]) hx hb dX6_share_64 rfl hl (by decide) rfl (fun ls hl => ?_)
      refine lv_goto (tgt := 47) hx hb dX6_share_65 (by decide) ?_
      exact ih_47 (k - 1, upd g1 d (nI m), upd v1 m (v1 m + 1), upd p1 m (p1 m + M.2.1 (1 + d))) (by show (k - 1) < (k); omega) _ _ _ ⟨(show CapI n (mFq M n).1 ((upd g1 d (nI m)), (upd v1 m (v1 m + 1)), (upd p1 m (p1 m + M.2.1 (1 + d)))) from hC2), (show undN (upd g1 d (nI m)) n ≤ (k - 1) from by omega), (show whl M.2.1 (mFq M n).1 n (k - 1) ((upd g1 d (nI m)), (upd v1 m (v1 m + 1)), (upd p1 m (p1 m + M.2.1 (1 + d)))) = mWl M n from by obtain ⟨k2, rfl⟩ : ∃ k2, k = k2 + 1 := ⟨k - 1, by omega⟩; exact (whl_some hd hm).symm.trans hw), hP, hD, hS, lv_sub hl [0, 1] rfl⟩
  · have c_4 : (cW (zW M.2.1)) = (0) := (nI_eq (a := cW (zW M.2.1)) (b := 0) (by omega) (by omega)).mp c_4
    refine lv_iconst (v := (0 : Int32)) hx hb dX6_share_7 (by decide) ?_
    refine lv_istore_n (lv' := [(1, .int ((0 : Int32))), (0, .ref (A 0))]) hx hb dX6_share_8 rfl hl (by decide) rfl (fun ls hl => ?_)
    have hP : va_P G vwCl (cat [[(A 0, .inr (6, [.int (M.1), .ref (A 1), .ref (A 2), .int (nI (M.2.2.2.1)), .ref (A 3), .int (nI (M.2.2.2.2.2.1)), .ref (A 4), .ref (A 5), .ref (A 6), .ref (A 7), .int (M.2.2.2.2.2.2.2.2.2.2.1), .int (M.2.2.2.2.2.2.2.2.2.2.2)]))], [(A 1, .inl (cyI, 91, .inl (M.2.1)))], [(A 2, .inl (cyI, 546, .inl (M.2.2.1)))], [(A 3, .inl (cyI, 60, .inl (M.2.2.2.2.1)))], [(A 4, .inl (cyI, 20, .inl (M.2.2.2.2.2.2.1)))], [(A 5, .inl (cyI, 6, .inl (M.2.2.2.2.2.2.2.1)))], [(A 6, .inl (cyI, 6, .inl (M.2.2.2.2.2.2.2.2.1)))], [(A 7, .inl (cyI, 6, .inl (M.2.2.2.2.2.2.2.2.2.1)))]]) H := hP
    have hD : va_D A9 (cat [[(A 0, .inr (6, [.int (M.1), .ref (A 1), .ref (A 2), .int (nI (M.2.2.2.1)), .ref (A 3), .int (nI (M.2.2.2.2.2.1)), .ref (A 4), .ref (A 5), .ref (A 6), .ref (A 7), .int (M.2.2.2.2.2.2.2.2.2.2.1), .int (M.2.2.2.2.2.2.2.2.2.2.2)]))], [(A 1, .inl (cyI, 91, .inl (M.2.1)))], [(A 2, .inl (cyI, 546, .inl (M.2.2.1)))], [(A 3, .inl (cyI, 60, .inl (M.2.2.2.2.1)))], [(A 4, .inl (cyI, 20, .inl (M.2.2.2.2.2.2.1)))], [(A 5, .inl (cyI, 6, .inl (M.2.2.2.2.2.2.2.1)))], [(A 6, .inl (cyI, 6, .inl (M.2.2.2.2.2.2.2.2.1)))], [(A 7, .inl (cyI, 6, .inl (M.2.2.2.2.2.2.2.2.2.1)))]]) := hD
    refine W_loop (α := Nat) (I := fun a9 H locs ls => (a9 ≤ n) ∧ va_P G vwCl (cat [[(A 0, .inr (6, [.int (M.1), .ref (A 1), .ref (A 2), .int (nI (M.2.2.2.1)), .ref (A 3), .int (nI (M.2.2.2.2.2.1)), .ref (A 4), .ref (A 5), .ref (A 6), .ref (A 7), .int (M.2.2.2.2.2.2.2.2.2.2.1), .int (M.2.2.2.2.2.2.2.2.2.2.2)]))], [(A 1, .inl (cyI, 91, .inl (M.2.1)))], [(A 2, .inl (cyI, 546, .inl (M.2.2.1)))], [(A 3, .inl (cyI, 60, .inl (M.2.2.2.2.1)))], [(A 4, .inl (cyI, 20, .inl (itr a9 (fun d g => upd g d (-1)) M.2.2.2.2.2.2.1)))], [(A 5, .inl (cyI, 6, .inl (M.2.2.2.2.2.2.2.1)))], [(A 6, .inl (cyI, 6, .inl (M.2.2.2.2.2.2.2.2.1)))], [(A 7, .inl (cyI, 6, .inl (M.2.2.2.2.2.2.2.2.2.1)))]]) H ∧ va_D A9 (cat [[(A 0, .inr (6, [.int (M.1), .ref (A 1), .ref (A 2), .int (nI (M.2.2.2.1)), .ref (A 3), .int (nI (M.2.2.2.2.2.1)), .ref (A 4), .ref (A 5), .ref (A 6), .ref (A 7), .int (M.2.2.2.2.2.2.2.2.2.2.1), .int (M.2.2.2.2.2.2.2.2.2.2.2)]))], [(A 1, .inl (cyI, 91, .inl (M.2.1)))], [(A 2, .inl (cyI, 546, .inl (M.2.2.1)))], [(A 3, .inl (cyI, 60, .inl (M.2.2.2.2.1)))], [(A 4, .inl (cyI, 20, .inl (itr a9 (fun d g => upd g d (-1)) M.2.2.2.2.2.2.1)))], [(A 5, .inl (cyI, 6, .inl (M.2.2.2.2.2.2.2.1)))], [(A 6, .inl (cyI, 6, .inl (M.2.2.2.2.2.2.2.2.1)))], [(A 7, .inl (cyI, 6, .inl (M.2.2.2.2.2.2.2.2.2.1)))]]) ∧ va_S A9 s9.heap H locs ∧ lv_has ls 4 [(1, .int (nI (a9))), (0, .ref (A 0))]) (μ := fun a9 => n - a9) (st := fun a9 => []) ?_ (0) _ _ _ ⟨(show 0 ≤ n from by omega), hP, hD, hS, lv_sub hl [0, 1] rfl⟩
    intro a9 ih_9 H locs ls hI
    obtain ⟨i, ea9⟩ : ∃ z, z = a9 := ⟨_, rfl⟩
    subst ea9
    obtain ⟨hi9, hP9, hD9, hS9, hl9⟩ := hI
    have hi : i ≤ n := hi9
    have hP : va_P G vwCl (cat [[(A 0, .inr (6, [.int (M.1), .ref (A 1), .ref (A 2), .int (nI (M.2.2.2.1)), .ref (A 3), .int (nI (M.2.2.2.2.2.1)), .ref (A 4), .ref (A 5), .ref (A 6), .ref (A 7), .int (M.2.2.2.2.2.2.2.2.2.2.1), .int (M.2.2.2.2.2.2.2.2.2.2.2)]))], [(A 1, .inl (cyI, 91, .inl (M.2.1)))], [(A 2, .inl (cyI, 546, .inl (M.2.2.1)))], [(A 3, .inl (cyI, 60, .inl (M.2.2.2.2.1)))], [(A 4, .inl (cyI, 20, .inl (itr i (fun d g => upd g d (-1)) M.2.2.2.2.2.2.1)))], [(A 5, .inl (cyI, 6, .inl (M.2.2.2.2.2.2.2.1)))], [(A 6, .inl (cyI, 6, .inl (M.2.2.2.2.2.2.2.2.1)))], [(A 7, .inl (cyI, 6, .inl (M.2.2.2.2.2.2.2.2.2.1)))]]) H := hP9
    have hD : va_D A9 (cat [[(A 0, .inr (6, [.int (M.1), .ref (A 1), .ref (A 2), .int (nI (M.2.2.2.1)), .ref (A 3), .int (nI (M.2.2.2.2.2.1)), .ref (A 4), .ref (A 5), .ref (A 6), .ref (A 7), .int (M.2.2.2.2.2.2.2.2.2.2.1), .int (M.2.2.2.2.2.2.2.2.2.2.2)]))], [(A 1, .inl (cyI, 91, .inl (M.2.1)))], [(A 2, .inl (cyI, 546, .inl (M.2.2.1)))], [(A 3, .inl (cyI, 60, .inl (M.2.2.2.2.1)))], [(A 4, .inl (cyI, 20, .inl (itr i (fun d g => upd g d (-1)) M.2.2.2.2.2.2.1)))], [(A 5, .inl (cyI, 6, .inl (M.2.2.2.2.2.2.2.1)))], [(A 6, .inl (cyI, 6, .inl (M.2.2.2.2.2.2.2.2.1)))], [(A 7, .inl (cyI, 6, .inl (M.2.2.2.2.2.2.2.2.2.1)))]]) := hD9
    have hS := hS9
    have hl : lv_has ls 4 [(1, .int (nI (i))), (0, .ref (A 0))] := hl9
    clear hi9 hP9 hD9 hS9 hl9
    refine lv_iload_n hx hb dX6_share_9 rfl (lv_at hl 0 rfl) ?_
    refine lv_aload_n hx hb dX6_share_10 rfl (lv_at hl 1 rfl) ?_
    refine va_get (v := .ref (A 1)) (C := RX6) (T := TX6) (N := 12) hx hb hts hinX6 hown hK hP 0 rfl rfl 1 (by decide) hf7 (fun _ h9 => h9) rfl dX6_share_11 ?_
    refine lv_iconst (v := (0 : Int32)) hx hb dX6_share_14 (by decide) ?_
    refine r_ild (k := 0) (n := 91) (f := M.2.1) hx hb hK hP 1 0 rfl rfl (by omega) (by omega) rfl dX6_share_15 ?_
    refine top_i (x' := nI (n)) (hz) ?_
    refine lv_icmp_ge (tgt := 32) hx hb dX6_share_16 (by decide) (fun c_16 => ?_) (fun c_16 => ?_)
    · have c_16 : (n) ≤ (i) := (nI_leI (a := n) (b := i) (by omega) (by omega)).mp c_16
      obtain rfl : n = i := by omega
      refine lv_iconst (v := (-1 : Int32)) hx hb dX6_share_32 (by decide) ?_
      have hgo : cat [[(A 0, .inr (6, [.int (M.1), .ref (A 1), .ref (A 2), .int (nI (M.2.2.2.1)), .ref (A 3), .int (nI (M.2.2.2.2.2.1)), .ref (A 4), .ref (A 5), .ref (A 6), .ref (A 7), .int (M.2.2.2.2.2.2.2.2.2.2.1), .int (M.2.2.2.2.2.2.2.2.2.2.2)]))], [(A 1, .inl (cyI, 91, .inl (M.2.1)))], [(A 2, .inl (cyI, 546, .inl (M.2.2.1)))], [(A 3, .inl (cyI, 60, .inl (M.2.2.2.2.1)))], [(A 4, .inl (cyI, 20, .inl (itr n (fun d g => upd g d (-1)) M.2.2.2.2.2.2.1)))], [(A 5, .inl (cyI, 6, .inl (M.2.2.2.2.2.2.2.1)))], [(A 6, .inl (cyI, 6, .inl (M.2.2.2.2.2.2.2.2.1)))], [(A 7, .inl (cyI, 6, .inl (M.2.2.2.2.2.2.2.2.2.1)))]] = cat [mdW cyI A (mSh M n)] := by rw [show mSh M n = _ from if_pos c_4]; rfl
      rw [hgo] at hP hD
      have hP : va_P G vwCl (cat [mdW cyI A (mSh M n)]) H := hP
      have hD : va_D A9 (cat [mdW cyI A (mSh M n)]) := hD
      exact end_i hx hb hr hlocks hK hP hD hS ((if_pos c_4).symm) dX6_share_33
    · have c_16 : ¬ (n) ≤ (i) := fun h9 => c_16 ((nI_leI (a := n) (b := i) (by omega) (by omega)).mpr h9)
      refine lv_aload_n hx hb dX6_share_19 rfl (lv_at hl 1 rfl) ?_
      refine va_get (v := .ref (A 4)) (C := RX6) (T := TX6) (N := 12) hx hb hts hinX6 hown hK hP 0 rfl rfl 6 (by decide) hf19 (fun _ h9 => h9) rfl dX6_share_20 ?_
      refine lv_iload_n hx hb dX6_share_23 rfl (lv_at hl 0 rfl) ?_
      refine lv_iconst (v := (-1 : Int32)) hx hb dX6_share_24 (by decide) ?_
      refine r_ist (k := i) (n := 20) (f := itr i (fun d g => upd g d (-1)) M.2.2.2.2.2.2.1) hx hb hK hP hD hS 4 0 rfl rfl (by omega) (by omega) rfl dX6_share_25 (fun H locs hP hD hS => ?_)
      have hP : va_P G vwCl (cat [[(A 0, .inr (6, [.int (M.1), .ref (A 1), .ref (A 2), .int (nI (M.2.2.2.1)), .ref (A 3), .int (nI (M.2.2.2.2.2.1)), .ref (A 4), .ref (A 5), .ref (A 6), .ref (A 7), .int (M.2.2.2.2.2.2.2.2.2.2.1), .int (M.2.2.2.2.2.2.2.2.2.2.2)]))], [(A 1, .inl (cyI, 91, .inl (M.2.1)))], [(A 2, .inl (cyI, 546, .inl (M.2.2.1)))], [(A 3, .inl (cyI, 60, .inl (M.2.2.2.2.1)))], [(A 4, .inl (cyI, 20, .inl (upd (itr i (fun d g => upd g d (-1)) M.2.2.2.2.2.2.1) i ((-1 : Int32)))))], [(A 5, .inl (cyI, 6, .inl (M.2.2.2.2.2.2.2.1)))], [(A 6, .inl (cyI, 6, .inl (M.2.2.2.2.2.2.2.2.1)))], [(A 7, .inl (cyI, 6, .inl (M.2.2.2.2.2.2.2.2.2.1)))]]) H := hP
      have hD : va_D A9 (cat [[(A 0, .inr (6, [.int (M.1), .ref (A 1), .ref (A 2), .int (nI (M.2.2.2.1)), .ref (A 3), .int (nI (M.2.2.2.2.2.1)), .ref (A 4), .ref (A 5), .ref (A 6), .ref (A 7), .int (M.2.2.2.2.2.2.2.2.2.2.1), .int (M.2.2.2.2.2.2.2.2.2.2.2)]))], [(A 1, .inl (cyI, 91, .inl (M.2.1)))], [(A 2, .inl (cyI, 546, .inl (M.2.2.1)))], [(A 3, .inl (cyI, 60, .inl (M.2.2.2.2.1)))], [(A 4, .inl (cyI, 20, .inl (upd (itr i (fun d g => upd g d (-1)) M.2.2.2.2.2.2.1) i ((-1 : Int32)))))], [(A 5, .inl (cyI, 6, .inl (M.2.2.2.2.2.2.2.1)))], [(A 6, .inl (cyI, 6, .inl (M.2.2.2.2.2.2.2.2.1)))], [(A 7, .inl (cyI, 6, .inl (M.2.2.2.2.2.2.2.2.2.1)))]]) := hD
      refine lv_iinc (v := nI (i + 1)) (lv' := [(1, .int (nI (i + 1))), (0, .ref (A 0))]) hx hb dX6_share_26 hl (k := 0) rfl (nI_add _ _) (by decide) rfl (fun ls hl => ?_)
      refine lv_goto (tgt := 9) hx hb dX6_share_29 (by decide) ?_
      exact ih_9 (i + 1) (by show (n - (i + 1)) < (n - i); omega) _ _ _ ⟨(show (i + 1) ≤ n from by omega), hP, hD, hS, lv_sub hl [0, 1] rfl⟩
abbrev rm_X6_noAdd : Room := { frames := 1, cells := 0, slots := 0, locals := 22 }
set_option maxHeartbeats 4000000 in
set_option maxRecDepth 100000 in
theorem c_X6_noAdd (l : Launch) (G : va_G) (cyI cyO : ClassId) (A : Nat → Nat) (M : MS) (n : Nat) (hM : MI M.2.1 n) (v : Int32) : CI l G (TY cyI cyO) yX6_noAdd wsX6_noAdd rm_X6_noAdd [.ref (A 0), .int (v)] [mdW cyI A M] (mNoAdd M.2.1 n v) [mdW cyI A M] := by
  refine wk_I (cc := cX6_noAdd) (maxL := 2) (ret := (some .int)) (by decide) rfl (Nat.le_of_ble_eq_true rfl) ?_
  intro p9 e9 s9 m9 b9 t9 c9 A9 ls hx hb hr hts hown hlocks hml hK hA hD hP hl hS hnm
  have hl : lv_has ls 2 [(0, .ref (A 0)), (1, .int (v))] := hl
  have hinX6 : ∀ w ∈ wsX60, w ∈ wsX6_noAdd := by decide +kernel
  have hf7 := hts (.fieldLink RX6 7 "DoorstepRoundsModel" "z" "[I") (by decide +kernel)
  have hz : M.2.1 0 = nI n := hM.1
  have hn : n ≤ 20 := hM.2.1
  have hWk := hM.2.2.1
  have hOw := hM.2.2.2
  refine lv_iload_n hx hb dX6_noAdd_0 rfl (lv_at hl 1 rfl) ?_
  refine lv_iconst (v := (1 : Int32)) hx hb dX6_noAdd_1 (by decide) ?_
  refine lv_bipush (v := (9 : Int32)) hx hb dX6_noAdd_2 (by decide) ?_
  refine gSi (gs := [mdW cyI A M]) (As := [.int (v), .int ((1 : Int32)), .int ((9 : Int32))]) (rest := []) ⟨hx, hb, hml, hown, hts⟩ (c_X6_in l G cyI cyO v ((1 : Int32)) ((9 : Int32))) (va_cwS 3 hts gX6_noAdd_X6_in rfl rfl rfl (by decide +kernel) ⟨Nat.le_of_ble_eq_true rfl, Nat.le_of_ble_eq_true rfl⟩) hK hP hD hS hA [] rfl rfl rfl rfl hl.1 rfl (Nat.le_of_ble_eq_true rfl) dX6_noAdd_4 ⟨Nat.le_refl _, Nat.le_refl _⟩ (fun H locs hP hD hS => ?_)
  have hP : va_P G vwCl (cat [mdW cyI A M]) H := hP
  have hD : va_D A9 (cat [mdW cyI A M]) := hD
  refine lv_if_ne (tgt := 14) hx hb dX6_noAdd_7 (by decide) (fun c_7 => ?_) (fun c_7 => ?_)
  · have c_7 : (isDig v ((1 : Int32)) ((9 : Int32))) = true := bI_nz.mp c_7
    refine lv_aload_n hx hb dX6_noAdd_14 rfl (lv_at hl 0 rfl) ?_
    refine va_get (v := .ref (A 1)) (C := RX6) (T := TX6) (N := 12) hx hb hts hinX6 hown hK hP 0 rfl rfl 1 (by decide) hf7 (fun _ h9 => h9) rfl dX6_noAdd_15 ?_
    refine lv_bipush (v := (87 : Int32)) hx hb dX6_noAdd_18 (by decide) ?_
    refine r_ild (k := 87) (n := 91) (f := M.2.1) hx hb hK hP 1 0 rfl rfl (by omega) (by omega) rfl dX6_noAdd_20 ?_
    refine lv_if_gt (tgt := 35) hx hb dX6_noAdd_21 (by decide) (fun c_21 => ?_) (fun c_21 => ?_)
    · refine lv_iconst (v := (2 : Int32)) hx hb dX6_noAdd_35 (by decide) ?_
      refine lv_goto (tgt := 40) hx hb dX6_noAdd_36 (by decide) ?_
      have hP : va_P G vwCl (cat [mdW cyI A M]) H := hP
      have hD : va_D A9 (cat [mdW cyI A M]) := hD
      exact end_i hx hb hr hlocks hK hP hD hS (by simp [mNoAdd, c_7, c_21]) dX6_noAdd_40
    · refine lv_aload_n hx hb dX6_noAdd_24 rfl (lv_at hl 0 rfl) ?_
      refine va_get (v := .ref (A 1)) (C := RX6) (T := TX6) (N := 12) hx hb hts hinX6 hown hK hP 0 rfl rfl 1 (by decide) hf7 (fun _ h9 => h9) rfl dX6_noAdd_25 ?_
      refine lv_iconst (v := (0 : Int32)) hx hb dX6_noAdd_28 (by decide) ?_
      refine r_ild (k := 0) (n := 91) (f := M.2.1) hx hb hK hP 1 0 rfl rfl (by omega) (by omega) rfl dX6_noAdd_29 ?_
      refine top_i (x' := nI (n)) (hz) ?_
      refine lv_bipush (v := (20 : Int32)) hx hb dX6_noAdd_30 (by decide) ?_
      refine lv_icmp_ne (tgt := 39) hx hb dX6_noAdd_32 (by decide) (fun c_32 => ?_) (fun c_32 => ?_)
      · have c_32 : ¬ (n) = (20) := fun h9 => c_32 ((nI_eq (a := n) (b := 20) (by omega) (by omega)).mpr h9)
        refine lv_iconst (v := (0 : Int32)) hx hb dX6_noAdd_39 (by decide) ?_
        have hP : va_P G vwCl (cat [mdW cyI A M]) H := hP
        have hD : va_D A9 (cat [mdW cyI A M]) := hD
        exact end_i hx hb hr hlocks hK hP hD hS (by simp [mNoAdd, c_7, c_21, c_32]) dX6_noAdd_40
      · have c_32 : (n) = (20) := (nI_eq (a := n) (b := 20) (by omega) (by omega)).mp c_32
        refine lv_iconst (v := (2 : Int32)) hx hb dX6_noAdd_35 (by decide) ?_
        refine lv_goto (tgt := 40) hx hb dX6_noAdd_36 (by decide) ?_
        have hP : va_P G vwCl (cat [mdW cyI A M]) H := hP
        have hD : va_D A9 (cat [mdW cyI A M]) := hD
        exact end_i hx hb hr hlocks hK hP hD hS (by simp [mNoAdd, c_7, c_21, c_32]) dX6_noAdd_40
  · have c_7 : (isDig v ((1 : Int32)) ((9 : Int32))) = false := bI_z.mp c_7
    refine lv_iconst (v := (1 : Int32)) hx hb dX6_noAdd_10 (by decide) ?_
    refine lv_goto (tgt := 40) hx hb dX6_noAdd_11 (by decide) ?_
    have hP : va_P G vwCl (cat [mdW cyI A M]) H := hP
    have hD : va_D A9 (cat [mdW cyI A M]) := hD
    exact end_i hx hb hr hlocks hK hP hD hS (by simp [mNoAdd, c_7]) dX6_noAdd_40
abbrev rm_X6_doAdd : Room := { frames := 0, cells := 0, slots := 0, locals := 0 }
set_option maxHeartbeats 4000000 in
set_option maxRecDepth 100000 in
theorem c_X6_doAdd (l : Launch) (G : va_G) (cyI cyO : ClassId) (A : Nat → Nat) (M : MS) (n : Nat) (hM : MI M.2.1 n) (v : Int32) (hn1 : n < 20) : CI l G (TY cyI cyO) yX6_doAdd wsX6_doAdd rm_X6_doAdd [.ref (A 0), .int (v)] [mdW cyI A M] (nI (n)) [mdW cyI A ((M.1, upd (upd (upd M.2.1 (1 + n) v) (21 + n) (-1)) 0 (nI (n + 1)), M.2.2.1, M.2.2.2.1, M.2.2.2.2.1, M.2.2.2.2.2.1, M.2.2.2.2.2.2.1, M.2.2.2.2.2.2.2.1, M.2.2.2.2.2.2.2.2.1, M.2.2.2.2.2.2.2.2.2.1, M.2.2.2.2.2.2.2.2.2.2.1, M.2.2.2.2.2.2.2.2.2.2.2))] := by
  refine wk_I (cc := cX6_doAdd) (maxL := 3) (ret := (some .int)) (by decide) rfl (Nat.le_of_ble_eq_true rfl) ?_
  intro p9 e9 s9 m9 b9 t9 c9 A9 ls hx hb hr hts hown hlocks hml hK hA hD hP hl hS hnm
  have hl : lv_has ls 3 [(0, .ref (A 0)), (1, .int (v))] := hl
  have hinX6 : ∀ w ∈ wsX60, w ∈ wsX6_doAdd := by decide +kernel
  have hf7 := hts (.fieldLink RX6 7 "DoorstepRoundsModel" "z" "[I") (by decide +kernel)
  have hz : M.2.1 0 = nI n := hM.1
  have hn : n ≤ 20 := hM.2.1
  have hWk := hM.2.2.1
  have hOw := hM.2.2.2
  have hP : va_P G vwCl (cat [[(A 0, .inr (6, [.int (M.1), .ref (A 1), .ref (A 2), .int (nI (M.2.2.2.1)), .ref (A 3), .int (nI (M.2.2.2.2.2.1)), .ref (A 4), .ref (A 5), .ref (A 6), .ref (A 7), .int (M.2.2.2.2.2.2.2.2.2.2.1), .int (M.2.2.2.2.2.2.2.2.2.2.2)]))], [(A 1, .inl (cyI, 91, .inl (M.2.1)))], [(A 2, .inl (cyI, 546, .inl (M.2.2.1)))], [(A 3, .inl (cyI, 60, .inl (M.2.2.2.2.1)))], [(A 4, .inl (cyI, 20, .inl (M.2.2.2.2.2.2.1)))], [(A 5, .inl (cyI, 6, .inl (M.2.2.2.2.2.2.2.1)))], [(A 6, .inl (cyI, 6, .inl (M.2.2.2.2.2.2.2.2.1)))], [(A 7, .inl (cyI, 6, .inl (M.2.2.2.2.2.2.2.2.2.1)))]]) s9.heap := hP
  have hD : va_D A9 (cat [[(A 0, .inr (6, [.int (M.1), .ref (A 1), .ref (A 2), .int (nI (M.2.2.2.1)), .ref (A 3), .int (nI (M.2.2.2.2.2.1)), .ref (A 4), .ref (A 5), .ref (A 6), .ref (A 7), .int (M.2.2.2.2.2.2.2.2.2.2.1), .int (M.2.2.2.2.2.2.2.2.2.2.2)]))], [(A 1, .inl (cyI, 91, .inl (M.2.1)))], [(A 2, .inl (cyI, 546, .inl (M.2.2.1)))], [(A 3, .inl (cyI, 60, .inl (M.2.2.2.2.1)))], [(A 4, .inl (cyI, 20, .inl (M.2.2.2.2.2.2.1)))], [(A 5, .inl (cyI, 6, .inl (M.2.2.2.2.2.2.2.1)))], [(A 6, .inl (cyI, 6, .inl (M.2.2.2.2.2.2.2.2.1)))], [(A 7, .inl (cyI, 6, .inl (M.2.2.2.2.2.2.2.2.2.1)))]]) := hD
  refine lv_aload_n hx hb dX6_doAdd_0 rfl (lv_at hl 0 rfl) ?_
  refine va_get (v := .ref (A 1)) (C := RX6) (T := TX6) (N := 12) hx hb hts hinX6 hown hK hP 0 rfl rfl 1 (by decide) hf7 (fun _ h9 => h9) rfl dX6_doAdd_1 ?_
  refine lv_iconst (v := (0 : Int32)) hx hb dX6_doAdd_4 (by decide) ?_
  refine r_ild (k := 0) (n := 91) (f := M.2.1) hx hb hK hP 1 0 rfl rfl (by omega) (by omega) rfl dX6_doAdd_5 ?_
  refine top_i (x' := nI (n)) (hz) ?_
  refine lv_istore_n (lv' := [(2, .int (nI (n))), (0, .ref (A 0)), (1, .int (v))]) hx hb dX6_doAdd_6 rfl hl (by decide) rfl (fun ls hl => ?_)
  refine lv_aload_n hx hb dX6_doAdd_7 rfl (lv_at hl 1 rfl) ?_
  refine va_get (v := .ref (A 1)) (C := RX6) (T := TX6) (N := 12) hx hb hts hinX6 hown hK hP 0 rfl rfl 1 (by decide) hf7 (fun _ h9 => h9) rfl dX6_doAdd_8 ?_
  refine lv_iconst (v := (1 : Int32)) hx hb dX6_doAdd_11 (by decide) ?_
  refine lv_iload_n hx hb dX6_doAdd_12 rfl (lv_at hl 0 rfl) ?_
  refine lv_iadd hx hb dX6_doAdd_13 ?_
  refine top_i (x' := nI (1 + n)) (nI_add (1) (n)) ?_
  refine lv_iload_n hx hb dX6_doAdd_14 rfl (lv_at hl 2 rfl) ?_
  refine r_ist (k := 1 + n) (n := 91) (f := M.2.1) hx hb hK hP hD hS 1 0 rfl rfl (by omega) (by omega) rfl dX6_doAdd_15 (fun H locs hP hD hS => ?_)
  have hP : va_P G vwCl (cat [[(A 0, .inr (6, [.int (M.1), .ref (A 1), .ref (A 2), .int (nI (M.2.2.2.1)), .ref (A 3), .int (nI (M.2.2.2.2.2.1)), .ref (A 4), .ref (A 5), .ref (A 6), .ref (A 7), .int (M.2.2.2.2.2.2.2.2.2.2.1), .int (M.2.2.2.2.2.2.2.2.2.2.2)]))], [(A 1, .inl (cyI, 91, .inl (upd M.2.1 (1 + n) v)))], [(A 2, .inl (cyI, 546, .inl (M.2.2.1)))], [(A 3, .inl (cyI, 60, .inl (M.2.2.2.2.1)))], [(A 4, .inl (cyI, 20, .inl (M.2.2.2.2.2.2.1)))], [(A 5, .inl (cyI, 6, .inl (M.2.2.2.2.2.2.2.1)))], [(A 6, .inl (cyI, 6, .inl (M.2.2.2.2.2.2.2.2.1)))], [(A 7, .inl (cyI, 6, .inl (M.2.2.2.2.2.2.2.2.2.1)))]]) H := hP
  have hD : va_D A9 (cat [[(A 0, .inr (6, [.int (M.1), .ref (A 1), .ref (A 2), .int (nI (M.2.2.2.1)), .ref (A 3), .int (nI (M.2.2.2.2.2.1)), .ref (A 4), .ref (A 5), .ref (A 6), .ref (A 7), .int (M.2.2.2.2.2.2.2.2.2.2.1), .int (M.2.2.2.2.2.2.2.2.2.2.2)]))], [(A 1, .inl (cyI, 91, .inl (upd M.2.1 (1 + n) v)))], [(A 2, .inl (cyI, 546, .inl (M.2.2.1)))], [(A 3, .inl (cyI, 60, .inl (M.2.2.2.2.1)))], [(A 4, .inl (cyI, 20, .inl (M.2.2.2.2.2.2.1)))], [(A 5, .inl (cyI, 6, .inl (M.2.2.2.2.2.2.2.1)))], [(A 6, .inl (cyI, 6, .inl (M.2.2.2.2.2.2.2.2.1)))], [(A 7, .inl (cyI, 6, .inl (M.2.2.2.2.2.2.2.2.2.1)))]]) := hD
  refine lv_aload_n hx hb dX6_doAdd_16 rfl (lv_at hl 1 rfl) ?_
  refine va_get (v := .ref (A 1)) (C := RX6) (T := TX6) (N := 12) hx hb hts hinX6 hown hK hP 0 rfl rfl 1 (by decide) hf7 (fun _ h9 => h9) rfl dX6_doAdd_17 ?_
  refine lv_bipush (v := (21 : Int32)) hx hb dX6_doAdd_20 (by decide) ?_
  refine lv_iload_n hx hb dX6_doAdd_22 rfl (lv_at hl 0 rfl) ?_
  refine lv_iadd hx hb dX6_doAdd_23 ?_
  refine top_i (x' := nI (21 + n)) (nI_add (21) (n)) ?_
  refine lv_iconst (v := (-1 : Int32)) hx hb dX6_doAdd_24 (by decide) ?_
  refine r_ist (k := 21 + n) (n := 91) (f := upd M.2.1 (1 + n) v) hx hb hK hP hD hS 1 0 rfl rfl (by omega) (by omega) rfl dX6_doAdd_25 (fun H locs hP hD hS => ?_)
  have hP : va_P G vwCl (cat [[(A 0, .inr (6, [.int (M.1), .ref (A 1), .ref (A 2), .int (nI (M.2.2.2.1)), .ref (A 3), .int (nI (M.2.2.2.2.2.1)), .ref (A 4), .ref (A 5), .ref (A 6), .ref (A 7), .int (M.2.2.2.2.2.2.2.2.2.2.1), .int (M.2.2.2.2.2.2.2.2.2.2.2)]))], [(A 1, .inl (cyI, 91, .inl (upd (upd M.2.1 (1 + n) v) (21 + n) ((-1 : Int32)))))], [(A 2, .inl (cyI, 546, .inl (M.2.2.1)))], [(A 3, .inl (cyI, 60, .inl (M.2.2.2.2.1)))], [(A 4, .inl (cyI, 20, .inl (M.2.2.2.2.2.2.1)))], [(A 5, .inl (cyI, 6, .inl (M.2.2.2.2.2.2.2.1)))], [(A 6, .inl (cyI, 6, .inl (M.2.2.2.2.2.2.2.2.1)))], [(A 7, .inl (cyI, 6, .inl (M.2.2.2.2.2.2.2.2.2.1)))]]) H := hP
  have hD : va_D A9 (cat [[(A 0, .inr (6, [.int (M.1), .ref (A 1), .ref (A 2), .int (nI (M.2.2.2.1)), .ref (A 3), .int (nI (M.2.2.2.2.2.1)), .ref (A 4), .ref (A 5), .ref (A 6), .ref (A 7), .int (M.2.2.2.2.2.2.2.2.2.2.1), .int (M.2.2.2.2.2.2.2.2.2.2.2)]))], [(A 1, .inl (cyI, 91, .inl (upd (upd M.2.1 (1 + n) v) (21 + n) ((-1 : Int32)))))], [(A 2, .inl (cyI, 546, .inl (M.2.2.1)))], [(A 3, .inl (cyI, 60, .inl (M.2.2.2.2.1)))], [(A 4, .inl (cyI, 20, .inl (M.2.2.2.2.2.2.1)))], [(A 5, .inl (cyI, 6, .inl (M.2.2.2.2.2.2.2.1)))], [(A 6, .inl (cyI, 6, .inl (M.2.2.2.2.2.2.2.2.1)))], [(A 7, .inl (cyI, 6, .inl (M.2.2.2.2.2.2.2.2.2.1)))]]) := hD
  refine lv_aload_n hx hb dX6_doAdd_26 rfl (lv_at hl 1 rfl) ?_
  refine va_get (v := .ref (A 1)) (C := RX6) (T := TX6) (N := 12) hx hb hts hinX6 hown hK hP 0 rfl rfl 1 (by decide) hf7 (fun _ h9 => h9) rfl dX6_doAdd_27 ?_
  refine lv_iconst (v := (0 : Int32)) hx hb dX6_doAdd_30 (by decide) ?_
  refine lv_dup2_11 hx hb dX6_doAdd_31 rfl rfl ?_
  refine r_ild (k := 0) (n := 91) (f := upd (upd M.2.1 (1 + n) v) (21 + n) ((-1 : Int32))) hx hb hK hP 1 0 rfl rfl (by omega) (by omega) rfl dX6_doAdd_32 ?_
  refine top_i (x' := nI (n)) (by rw [pk_un (by omega), pk_un (by omega)]; exact hz) ?_
  refine lv_iconst (v := (1 : Int32)) hx hb dX6_doAdd_33 (by decide) ?_
  refine lv_iadd hx hb dX6_doAdd_34 ?_
  refine top_i (x' := nI (n + 1)) (nI_add (n) (1)) ?_
  refine r_ist (k := 0) (n := 91) (f := upd (upd M.2.1 (1 + n) v) (21 + n) ((-1 : Int32))) hx hb hK hP hD hS 1 0 rfl rfl (by omega) (by omega) rfl dX6_doAdd_35 (fun H locs hP hD hS => ?_)
  have hP : va_P G vwCl (cat [[(A 0, .inr (6, [.int (M.1), .ref (A 1), .ref (A 2), .int (nI (M.2.2.2.1)), .ref (A 3), .int (nI (M.2.2.2.2.2.1)), .ref (A 4), .ref (A 5), .ref (A 6), .ref (A 7), .int (M.2.2.2.2.2.2.2.2.2.2.1), .int (M.2.2.2.2.2.2.2.2.2.2.2)]))], [(A 1, .inl (cyI, 91, .inl (upd (upd (upd M.2.1 (1 + n) v) (21 + n) ((-1 : Int32))) 0 (nI (n + 1)))))], [(A 2, .inl (cyI, 546, .inl (M.2.2.1)))], [(A 3, .inl (cyI, 60, .inl (M.2.2.2.2.1)))], [(A 4, .inl (cyI, 20, .inl (M.2.2.2.2.2.2.1)))], [(A 5, .inl (cyI, 6, .inl (M.2.2.2.2.2.2.2.1)))], [(A 6, .inl (cyI, 6, .inl (M.2.2.2.2.2.2.2.2.1)))], [(A 7, .inl (cyI, 6, .inl (M.2.2.2.2.2.2.2.2.2.1)))]]) H := hP
  have hD : va_D A9 (cat [[(A 0, .inr (6, [.int (M.1), .ref (A 1), .ref (A 2), .int (nI (M.2.2.2.1)), .ref (A 3), .int (nI (M.2.2.2.2.2.1)), .ref (A 4), .ref (A 5), .ref (A 6), .ref (A 7), .int (M.2.2.2.2.2.2.2.2.2.2.1), .int (M.2.2.2.2.2.2.2.2.2.2.2)]))], [(A 1, .inl (cyI, 91, .inl (upd (upd (upd M.2.1 (1 + n) v) (21 + n) ((-1 : Int32))) 0 (nI (n + 1)))))], [(A 2, .inl (cyI, 546, .inl (M.2.2.1)))], [(A 3, .inl (cyI, 60, .inl (M.2.2.2.2.1)))], [(A 4, .inl (cyI, 20, .inl (M.2.2.2.2.2.2.1)))], [(A 5, .inl (cyI, 6, .inl (M.2.2.2.2.2.2.2.1)))], [(A 6, .inl (cyI, 6, .inl (M.2.2.2.2.2.2.2.2.1)))], [(A 7, .inl (cyI, 6, .inl (M.2.2.2.2.2.2.2.2.2.1)))]]) := hD
  refine lv_iload_n hx hb dX6_doAdd_36 rfl (lv_at hl 0 rfl) ?_
  have hP : va_P G vwCl (cat [mdW cyI A ((M.1, upd (upd (upd M.2.1 (1 + n) v) (21 + n) (-1)) 0 (nI (n + 1)), M.2.2.1, M.2.2.2.1, M.2.2.2.2.1, M.2.2.2.2.2.1, M.2.2.2.2.2.2.1, M.2.2.2.2.2.2.2.1, M.2.2.2.2.2.2.2.2.1, M.2.2.2.2.2.2.2.2.2.1, M.2.2.2.2.2.2.2.2.2.2.1, M.2.2.2.2.2.2.2.2.2.2.2))]) H := hP
  have hD : va_D A9 (cat [mdW cyI A ((M.1, upd (upd (upd M.2.1 (1 + n) v) (21 + n) (-1)) 0 (nI (n + 1)), M.2.2.1, M.2.2.2.1, M.2.2.2.2.1, M.2.2.2.2.2.1, M.2.2.2.2.2.2.1, M.2.2.2.2.2.2.2.1, M.2.2.2.2.2.2.2.2.1, M.2.2.2.2.2.2.2.2.2.1, M.2.2.2.2.2.2.2.2.2.2.1, M.2.2.2.2.2.2.2.2.2.2.2))]) := hD
  exact end_i hx hb hr hlocks hK hP hD hS (rfl) dX6_doAdd_37
abbrev rm_X6_noRemove : Room := { frames := 2, cells := 0, slots := 0, locals := 43 }
set_option maxHeartbeats 4000000 in
set_option maxRecDepth 100000 in
theorem c_X6_noRemove (l : Launch) (G : va_G) (cyI cyO : ClassId) (A : Nat → Nat) (M : MS) (n : Nat) (hM : MI M.2.1 n) (x : Int32) : CI l G (TY cyI cyO) yX6_noRemove wsX6_noRemove rm_X6_noRemove [.ref (A 0), .int (x)] [mdW cyI A M] (mNoRem M.2.1 n x) [mdW cyI A M] := by
  refine wk_I (cc := cX6_noRemove) (maxL := 2) (ret := (some .int)) (by decide) rfl (Nat.le_of_ble_eq_true rfl) ?_
  intro p9 e9 s9 m9 b9 t9 c9 A9 ls hx hb hr hts hown hlocks hml hK hA hD hP hl hS hnm
  have hl : lv_has ls 2 [(0, .ref (A 0)), (1, .int (x))] := hl
  have hinX6 : ∀ w ∈ wsX60, w ∈ wsX6_noRemove := by decide +kernel
  have hf7 := hts (.fieldLink RX6 7 "DoorstepRoundsModel" "z" "[I") (by decide +kernel)
  have hz : M.2.1 0 = nI n := hM.1
  have hn : n ≤ 20 := hM.2.1
  have hWk := hM.2.2.1
  have hOw := hM.2.2.2
  refine lv_aload_n hx hb dX6_noRemove_0 rfl (lv_at hl 0 rfl) ?_
  refine lv_iload_n hx hb dX6_noRemove_1 rfl (lv_at hl 1 rfl) ?_
  refine gVi (gs := [mdW cyI A M]) (As := [.int (x)]) (rest := []) ⟨hx, hb, hml, hown, hts⟩ (c_X6_isDoor l G cyI cyO A M n hM x) (cwV 1 hts gX6_noRemove_X6_isDoor rfl rfl rfl (by decide +kernel) ⟨Nat.le_of_ble_eq_true rfl, Nat.le_of_ble_eq_true rfl⟩) hK hP hD hS hA [0] rfl rfl rfl 0 6 rfl rfl rfl hl.1 rfl (Nat.le_of_ble_eq_true rfl) dX6_noRemove_2 ⟨Nat.le_refl _, Nat.le_refl _⟩ (fun H locs hP hD hS => ?_)
  have hP : va_P G vwCl (cat [mdW cyI A M]) H := hP
  have hD : va_D A9 (cat [mdW cyI A M]) := hD
  refine lv_if_ne (tgt := 12) hx hb dX6_noRemove_5 (by decide) (fun c_5 => ?_) (fun c_5 => ?_)
  · have c_5 : (mHas n x) = true := bI_nz.mp c_5
    refine lv_aload_n hx hb dX6_noRemove_12 rfl (lv_at hl 0 rfl) ?_
    refine va_get (v := .ref (A 1)) (C := RX6) (T := TX6) (N := 12) hx hb hts hinX6 hown hK hP 0 rfl rfl 1 (by decide) hf7 (fun _ h9 => h9) rfl dX6_noRemove_13 ?_
    refine lv_bipush (v := (87 : Int32)) hx hb dX6_noRemove_16 (by decide) ?_
    refine r_ild (k := 87) (n := 91) (f := M.2.1) hx hb hK hP 1 0 rfl rfl (by omega) (by omega) rfl dX6_noRemove_18 ?_
    refine lv_if_le (tgt := 26) hx hb dX6_noRemove_19 (by decide) (fun c_19 => ?_) (fun c_19 => ?_)
    · refine lv_iconst (v := (0 : Int32)) hx hb dX6_noRemove_26 (by decide) ?_
      have hP : va_P G vwCl (cat [mdW cyI A M]) H := hP
      have hD : va_D A9 (cat [mdW cyI A M]) := hD
      exact end_i hx hb hr hlocks hK hP hD hS (by simp [mNoRem, c_5, c_19]) dX6_noRemove_27
    · refine lv_iconst (v := (2 : Int32)) hx hb dX6_noRemove_22 (by decide) ?_
      refine lv_goto (tgt := 27) hx hb dX6_noRemove_23 (by decide) ?_
      have hP : va_P G vwCl (cat [mdW cyI A M]) H := hP
      have hD : va_D A9 (cat [mdW cyI A M]) := hD
      exact end_i hx hb hr hlocks hK hP hD hS (by simp [mNoRem, c_5, c_19]) dX6_noRemove_27
  · have c_5 : (mHas n x) = false := bI_z.mp c_5
    refine lv_iconst (v := (1 : Int32)) hx hb dX6_noRemove_8 (by decide) ?_
    refine lv_goto (tgt := 27) hx hb dX6_noRemove_9 (by decide) ?_
    have hP : va_P G vwCl (cat [mdW cyI A M]) H := hP
    have hD : va_D A9 (cat [mdW cyI A M]) := hD
    exact end_i hx hb hr hlocks hK hP hD hS (by simp [mNoRem, c_5]) dX6_noRemove_27
abbrev rm_X6_doRemove : Room := { frames := 0, cells := 0, slots := 0, locals := 0 }
set_option maxHeartbeats 4000000 in
set_option maxRecDepth 100000 in
theorem c_X6_doRemove (l : Launch) (G : va_G) (cyI cyO : ClassId) (A : Nat → Nat) (M : MS) (n : Nat) (hM : MI M.2.1 n) (k : Nat) (hk : k < n) : CI l G (TY cyI cyO) yX6_doRemove wsX6_doRemove rm_X6_doRemove [.ref (A 0), .int (nI (k))] [mdW cyI A M] (M.2.1 (21 + k)) [mdW cyI A ((M.1, rmAll M.2.1 n k, M.2.2.1, M.2.2.2.1, M.2.2.2.2.1, M.2.2.2.2.2.1, M.2.2.2.2.2.2.1, M.2.2.2.2.2.2.2.1, M.2.2.2.2.2.2.2.2.1, M.2.2.2.2.2.2.2.2.2.1, M.2.2.2.2.2.2.2.2.2.2.1, M.2.2.2.2.2.2.2.2.2.2.2))] := by
  refine wk_I (cc := cX6_doRemove) (maxL := 4) (ret := (some .int)) (by decide) rfl (Nat.le_of_ble_eq_true rfl) ?_
  intro p9 e9 s9 m9 b9 t9 c9 A9 ls hx hb hr hts hown hlocks hml hK hA hD hP hl hS hnm
  have hl : lv_has ls 4 [(0, .ref (A 0)), (1, .int (nI (k)))] := hl
  have hinX6 : ∀ w ∈ wsX60, w ∈ wsX6_doRemove := by decide +kernel
  have hf7 := hts (.fieldLink RX6 7 "DoorstepRoundsModel" "z" "[I") (by decide +kernel)
  have hz : M.2.1 0 = nI n := hM.1
  have hn : n ≤ 20 := hM.2.1
  have hWk := hM.2.2.1
  have hOw := hM.2.2.2
  have hP : va_P G vwCl (cat [[(A 0, .inr (6, [.int (M.1), .ref (A 1), .ref (A 2), .int (nI (M.2.2.2.1)), .ref (A 3), .int (nI (M.2.2.2.2.2.1)), .ref (A 4), .ref (A 5), .ref (A 6), .ref (A 7), .int (M.2.2.2.2.2.2.2.2.2.2.1), .int (M.2.2.2.2.2.2.2.2.2.2.2)]))], [(A 1, .inl (cyI, 91, .inl (M.2.1)))], [(A 2, .inl (cyI, 546, .inl (M.2.2.1)))], [(A 3, .inl (cyI, 60, .inl (M.2.2.2.2.1)))], [(A 4, .inl (cyI, 20, .inl (M.2.2.2.2.2.2.1)))], [(A 5, .inl (cyI, 6, .inl (M.2.2.2.2.2.2.2.1)))], [(A 6, .inl (cyI, 6, .inl (M.2.2.2.2.2.2.2.2.1)))], [(A 7, .inl (cyI, 6, .inl (M.2.2.2.2.2.2.2.2.2.1)))]]) s9.heap := hP
  have hD : va_D A9 (cat [[(A 0, .inr (6, [.int (M.1), .ref (A 1), .ref (A 2), .int (nI (M.2.2.2.1)), .ref (A 3), .int (nI (M.2.2.2.2.2.1)), .ref (A 4), .ref (A 5), .ref (A 6), .ref (A 7), .int (M.2.2.2.2.2.2.2.2.2.2.1), .int (M.2.2.2.2.2.2.2.2.2.2.2)]))], [(A 1, .inl (cyI, 91, .inl (M.2.1)))], [(A 2, .inl (cyI, 546, .inl (M.2.2.1)))], [(A 3, .inl (cyI, 60, .inl (M.2.2.2.2.1)))], [(A 4, .inl (cyI, 20, .inl (M.2.2.2.2.2.2.1)))], [(A 5, .inl (cyI, 6, .inl (M.2.2.2.2.2.2.2.1)))], [(A 6, .inl (cyI, 6, .inl (M.2.2.2.2.2.2.2.2.1)))], [(A 7, .inl (cyI, 6, .inl (M.2.2.2.2.2.2.2.2.2.1)))]]) := hD
  refine lv_aload_n hx hb dX6_doRemove_0 rfl (lv_at hl 0 rfl) ?_
  refine va_get (v := .ref (A 1)) (C := RX6) (T := TX6) (N := 12) hx hb hts hinX6 hown hK hP 0 rfl rfl 1 (by decide) hf7 (fun _ h9 => h9) rfl dX6_doRemove_1 ?_
  refine lv_bipush (v := (21 : Int32)) hx hb dX6_doRemove_4 (by decide) ?_
  refine lv_iload_n hx hb dX6_doRemove_6 rfl (lv_at hl 1 rfl) ?_
  refine lv_iadd hx hb dX6_doRemove_7 ?_
  refine top_i (x' := nI (21 + k)) (nI_add (21) (k)) ?_
  refine r_ild (k := 21 + k) (n := 91) (f := M.2.1) hx hb hK hP 1 0 rfl rfl (by omega) (by omega) rfl dX6_doRemove_8 ?_
  refine lv_istore_n (lv' := [(2, .int (M.2.1 (21 + k))), (0, .ref (A 0)), (1, .int (nI (k)))]) hx hb dX6_doRemove_9 rfl hl (by decide) rfl (fun ls hl => ?_)
  refine lv_aload_n hx hb dX6_doRemove_10 rfl (lv_at hl 1 rfl) ?_
  refine va_get (v := .ref (A 1)) (C := RX6) (T := TX6) (N := 12) hx hb hts hinX6 hown hK hP 0 rfl rfl 1 (by decide) hf7 (fun _ h9 => h9) rfl dX6_doRemove_11 ?_
  refine lv_iconst (v := (0 : Int32)) hx hb dX6_doRemove_14 (by decide) ?_
  refine lv_dup2_11 hx hb dX6_doRemove_15 rfl rfl ?_
  refine r_ild (k := 0) (n := 91) (f := M.2.1) hx hb hK hP 1 0 rfl rfl (by omega) (by omega) rfl dX6_doRemove_16 ?_
  refine top_i (x' := nI (n)) (hz) ?_
  refine lv_iconst (v := (1 : Int32)) hx hb dX6_doRemove_17 (by decide) ?_
  refine lv_isub hx hb dX6_doRemove_18 ?_
  refine top_i (x' := nI (n - 1)) (pk_sub (a := n) (b := 1) (by omega)) ?_
  refine r_ist (k := 0) (n := 91) (f := M.2.1) hx hb hK hP hD hS 1 0 rfl rfl (by omega) (by omega) rfl dX6_doRemove_19 (fun H locs hP hD hS => ?_)
  have hP : va_P G vwCl (cat [[(A 0, .inr (6, [.int (M.1), .ref (A 1), .ref (A 2), .int (nI (M.2.2.2.1)), .ref (A 3), .int (nI (M.2.2.2.2.2.1)), .ref (A 4), .ref (A 5), .ref (A 6), .ref (A 7), .int (M.2.2.2.2.2.2.2.2.2.2.1), .int (M.2.2.2.2.2.2.2.2.2.2.2)]))], [(A 1, .inl (cyI, 91, .inl (upd M.2.1 0 (nI (n - 1)))))], [(A 2, .inl (cyI, 546, .inl (M.2.2.1)))], [(A 3, .inl (cyI, 60, .inl (M.2.2.2.2.1)))], [(A 4, .inl (cyI, 20, .inl (M.2.2.2.2.2.2.1)))], [(A 5, .inl (cyI, 6, .inl (M.2.2.2.2.2.2.2.1)))], [(A 6, .inl (cyI, 6, .inl (M.2.2.2.2.2.2.2.2.1)))], [(A 7, .inl (cyI, 6, .inl (M.2.2.2.2.2.2.2.2.2.1)))]]) H := hP
  have hD : va_D A9 (cat [[(A 0, .inr (6, [.int (M.1), .ref (A 1), .ref (A 2), .int (nI (M.2.2.2.1)), .ref (A 3), .int (nI (M.2.2.2.2.2.1)), .ref (A 4), .ref (A 5), .ref (A 6), .ref (A 7), .int (M.2.2.2.2.2.2.2.2.2.2.1), .int (M.2.2.2.2.2.2.2.2.2.2.2)]))], [(A 1, .inl (cyI, 91, .inl (upd M.2.1 0 (nI (n - 1)))))], [(A 2, .inl (cyI, 546, .inl (M.2.2.1)))], [(A 3, .inl (cyI, 60, .inl (M.2.2.2.2.1)))], [(A 4, .inl (cyI, 20, .inl (M.2.2.2.2.2.2.1)))], [(A 5, .inl (cyI, 6, .inl (M.2.2.2.2.2.2.2.1)))], [(A 6, .inl (cyI, 6, .inl (M.2.2.2.2.2.2.2.2.1)))], [(A 7, .inl (cyI, 6, .inl (M.2.2.2.2.2.2.2.2.2.1)))]]) := hD
  refine lv_iload_n hx hb dX6_doRemove_20 rfl (lv_at hl 2 rfl) ?_
  refine lv_istore_n (lv' := [(3, .int (nI (k))), (2, .int (M.2.1 (21 + k))), (0, .ref (A 0)), (1, .int (nI (k)))]) hx hb dX6_doRemove_21 rfl hl (by decide) rfl (fun ls hl => ?_)
  refine W_loop (α := Nat × (Nat → Int32)) (I := fun a9 H locs ls => (k + a9.1 ≤ n - 1) ∧ (a9.2 0 = nI (n - 1)) ∧ (a9.2 = itr a9.1 (rmStep k) (upd M.2.1 0 (nI (n - 1)))) ∧ va_P G vwCl (cat [[(A 0, .inr (6, [.int (M.1), .ref (A 1), .ref (A 2), .int (nI (M.2.2.2.1)), .ref (A 3), .int (nI (M.2.2.2.2.2.1)), .ref (A 4), .ref (A 5), .ref (A 6), .ref (A 7), .int (M.2.2.2.2.2.2.2.2.2.2.1), .int (M.2.2.2.2.2.2.2.2.2.2.2)]))], [(A 1, .inl (cyI, 91, .inl (a9.2)))], [(A 2, .inl (cyI, 546, .inl (M.2.2.1)))], [(A 3, .inl (cyI, 60, .inl (M.2.2.2.2.1)))], [(A 4, .inl (cyI, 20, .inl (M.2.2.2.2.2.2.1)))], [(A 5, .inl (cyI, 6, .inl (M.2.2.2.2.2.2.2.1)))], [(A 6, .inl (cyI, 6, .inl (M.2.2.2.2.2.2.2.2.1)))], [(A 7, .inl (cyI, 6, .inl (M.2.2.2.2.2.2.2.2.2.1)))]]) H ∧ va_D A9 (cat [[(A 0, .inr (6, [.int (M.1), .ref (A 1), .ref (A 2), .int (nI (M.2.2.2.1)), .ref (A 3), .int (nI (M.2.2.2.2.2.1)), .ref (A 4), .ref (A 5), .ref (A 6), .ref (A 7), .int (M.2.2.2.2.2.2.2.2.2.2.1), .int (M.2.2.2.2.2.2.2.2.2.2.2)]))], [(A 1, .inl (cyI, 91, .inl (a9.2)))], [(A 2, .inl (cyI, 546, .inl (M.2.2.1)))], [(A 3, .inl (cyI, 60, .inl (M.2.2.2.2.1)))], [(A 4, .inl (cyI, 20, .inl (M.2.2.2.2.2.2.1)))], [(A 5, .inl (cyI, 6, .inl (M.2.2.2.2.2.2.2.1)))], [(A 6, .inl (cyI, 6, .inl (M.2.2.2.2.2.2.2.2.1)))], [(A 7, .inl (cyI, 6, .inl (M.2.2.2.2.2.2.2.2.2.1)))]]) ∧ va_S A9 s9.heap H locs ∧ lv_has ls 4 [(3, .int (nI (k + a9.1))), (2, .int (M.2.1 (21 + k))), (0, .ref (A 0)), (1, .int (nI (k)))]) (μ := fun a9 => n - a9.1) (st := fun a9 => []) ?_ (0, upd M.2.1 0 (nI (n - 1))) _ _ _ ⟨(show k + 0 ≤ n - 1 from by omega), (show (upd M.2.1 0 (nI (n - 1))) 0 = nI (n - 1) from pk_us), (show (upd M.2.1 0 (nI (n - 1))) = itr 0 (rmStep k) (upd M.2.1 0 (nI (n - 1))) from rfl), hP, hD, hS, lv_sub hl [0, 1, 2, 3] rfl⟩
  intro a9 ih_22 H locs ls hI
  obtain ⟨t, z1⟩ := a9
  obtain ⟨ht9, hz19, he9, hP9, hD9, hS9, hl9⟩ := hI
  have ht : k + t ≤ n - 1 := ht9
  have hz1 : z1 0 = nI (n - 1) := hz19
  have he : z1 = itr t (rmStep k) (upd M.2.1 0 (nI (n - 1))) := he9
  have hP : va_P G vwCl (cat [[(A 0, .inr (6, [.int (M.1), .ref (A 1), .ref (A 2), .int (nI (M.2.2.2.1)), .ref (A 3), .int (nI (M.2.2.2.2.2.1)), .ref (A 4), .ref (A 5), .ref (A 6), .ref (A 7), .int (M.2.2.2.2.2.2.2.2.2.2.1), .int (M.2.2.2.2.2.2.2.2.2.2.2)]))], [(A 1, .inl (cyI, 91, .inl (z1)))], [(A 2, .inl (cyI, 546, .inl (M.2.2.1)))], [(A 3, .inl (cyI, 60, .inl (M.2.2.2.2.1)))], [(A 4, .inl (cyI, 20, .inl (M.2.2.2.2.2.2.1)))], [(A 5, .inl (cyI, 6, .inl (M.2.2.2.2.2.2.2.1)))], [(A 6, .inl (cyI, 6, .inl (M.2.2.2.2.2.2.2.2.1)))], [(A 7, .inl (cyI, 6, .inl (M.2.2.2.2.2.2.2.2.2.1)))]]) H := hP9
  have hD : va_D A9 (cat [[(A 0, .inr (6, [.int (M.1), .ref (A 1), .ref (A 2), .int (nI (M.2.2.2.1)), .ref (A 3), .int (nI (M.2.2.2.2.2.1)), .ref (A 4), .ref (A 5), .ref (A 6), .ref (A 7), .int (M.2.2.2.2.2.2.2.2.2.2.1), .int (M.2.2.2.2.2.2.2.2.2.2.2)]))], [(A 1, .inl (cyI, 91, .inl (z1)))], [(A 2, .inl (cyI, 546, .inl (M.2.2.1)))], [(A 3, .inl (cyI, 60, .inl (M.2.2.2.2.1)))], [(A 4, .inl (cyI, 20, .inl (M.2.2.2.2.2.2.1)))], [(A 5, .inl (cyI, 6, .inl (M.2.2.2.2.2.2.2.1)))], [(A 6, .inl (cyI, 6, .inl (M.2.2.2.2.2.2.2.2.1)))], [(A 7, .inl (cyI, 6, .inl (M.2.2.2.2.2.2.2.2.2.1)))]]) := hD9
  have hS := hS9
  have hl : lv_has ls 4 [(3, .int (nI (k + t))), (2, .int (M.2.1 (21 + k))), (0, .ref (A 0)), (1, .int (nI (k)))] := hl9
  clear ht9 hz19 he9 hP9 hD9 hS9 hl9
  refine lv_iload_n hx hb dX6_doRemove_22 rfl (lv_at hl 0 rfl) ?_
  refine lv_aload_n hx hb dX6_doRemove_23 rfl (lv_at hl 2 rfl) ?_
  refine va_get (v := .ref (A 1)) (C := RX6) (T := TX6) (N := 12) hx hb hts hinX6 hown hK hP 0 rfl rfl 1 (by decide) hf7 (fun _ h9 => h9) rfl dX6_doRemove_24 ?_
  refine lv_iconst (v := (0 : Int32)) hx hb dX6_doRemove_27 (by decide) ?_
  refine r_ild (k := 0) (n := 91) (f := z1) hx hb hK hP 1 0 rfl rfl (by omega) (by omega) rfl dX6_doRemove_28 ?_
  refine top_i (x' := nI (n - 1)) (hz1) ?_
  refine lv_icmp_ge (tgt := 76) hx hb dX6_doRemove_29 (by decide) (fun c_29 => ?_) (fun c_29 => ?_)
  · have c_29 : (n - 1) ≤ (k + t) := (nI_leI (a := n - 1) (b := k + t) (by omega) (by omega)).mp c_29
    obtain rfl : n - 1 - k = t := by omega
    have e1 : z1 = rmAll M.2.1 n k := he
    subst e1
    refine lv_iload_n hx hb dX6_doRemove_76 rfl (lv_at hl 1 rfl) ?_
    have hP : va_P G vwCl (cat [mdW cyI A ((M.1, rmAll M.2.1 n k, M.2.2.1, M.2.2.2.1, M.2.2.2.2.1, M.2.2.2.2.2.1, M.2.2.2.2.2.2.1, M.2.2.2.2.2.2.2.1, M.2.2.2.2.2.2.2.2.1, M.2.2.2.2.2.2.2.2.2.1, M.2.2.2.2.2.2.2.2.2.2.1, M.2.2.2.2.2.2.2.2.2.2.2))]) H := hP
    have hD : va_D A9 (cat [mdW cyI A ((M.1, rmAll M.2.1 n k, M.2.2.1, M.2.2.2.1, M.2.2.2.2.1, M.2.2.2.2.2.1, M.2.2.2.2.2.2.1, M.2.2.2.2.2.2.2.1, M.2.2.2.2.2.2.2.2.1, M.2.2.2.2.2.2.2.2.2.1, M.2.2.2.2.2.2.2.2.2.2.1, M.2.2.2.2.2.2.2.2.2.2.2))]) := hD
    exact end_i hx hb hr hlocks hK hP hD hS (rfl) dX6_doRemove_77
  · have c_29 : ¬ (n - 1) ≤ (k + t) := fun h9 => c_29 ((nI_leI (a := n - 1) (b := k + t) (by omega) (by omega)).mpr h9)
    refine lv_aload_n hx hb dX6_doRemove_32 rfl (lv_at hl 2 rfl) ?_
    refine va_get (v := .ref (A 1)) (C := RX6) (T := TX6) (N := 12) hx hb hts hinX6 hown hK hP 0 rfl rfl 1 (by decide) hf7 (fun _ h9 => h9) rfl dX6_doRemove_33 ?_
    refine lv_iconst (v := (1 : Int32)) hx hb dX6_doRemove_36 (by decide) ?_
    refine lv_iload_n hx hb dX6_doRemove_37 rfl (lv_at hl 0 rfl) ?_
    refine lv_iadd hx hb dX6_doRemove_38 ?_
    refine top_i (x' := nI (1 + (k + t))) (nI_add (1) (k + t)) ?_
    refine lv_aload_n hx hb dX6_doRemove_39 rfl (lv_at hl 2 rfl) ?_
    refine va_get (v := .ref (A 1)) (C := RX6) (T := TX6) (N := 12) hx hb hts hinX6 hown hK hP 0 rfl rfl 1 (by decide) hf7 (fun _ h9 => h9) rfl dX6_doRemove_40 ?_
    refine lv_iconst (v := (1 : Int32)) hx hb dX6_doRemove_43 (by decide) ?_
    refine lv_iload_n hx hb dX6_doRemove_44 rfl (lv_at hl 0 rfl) ?_
    refine lv_iadd hx hb dX6_doRemove_45 ?_
    refine top_i (x' := nI (1 + (k + t))) (nI_add (1) (k + t)) ?_
    refine lv_iconst (v := (1 : Int32)) hx hb dX6_doRemove_46 (by decide) ?_
    refine lv_iadd hx hb dX6_doRemove_47 ?_
    refine top_i (x' := nI ((1 + (k + t)) + 1)) (nI_add (1 + (k + t)) (1)) ?_
    refine r_ild (k := (1 + (k + t)) + 1) (n := 91) (f := z1) hx hb hK hP 1 0 rfl rfl (by omega) (by omega) rfl dX6_doRemove_48 ?_
    refine r_ist (k := 1 + (k + t)) (n := 91) (f := z1) hx hb hK hP hD hS 1 0 rfl rfl (by omega) (by omega) rfl dX6_doRemove_49 (fun H locs hP hD hS => ?_)
    have hP : va_P G vwCl (cat [[(A 0, .inr (6, [.int (M.1), .ref (A 1), .ref (A 2), .int (nI (M.2.2.2.1)), .ref (A 3), .int (nI (M.2.2.2.2.2.1)), .ref (A 4), .ref (A 5), .ref (A 6), .ref (A 7), .int (M.2.2.2.2.2.2.2.2.2.2.1), .int (M.2.2.2.2.2.2.2.2.2.2.2)]))], [(A 1, .inl (cyI, 91, .inl (upd z1 (1 + (k + t)) (z1 ((1 + (k + t)) + 1)))))], [(A 2, .inl (cyI, 546, .inl (M.2.2.1)))], [(A 3, .inl (cyI, 60, .inl (M.2.2.2.2.1)))], [(A 4, .inl (cyI, 20, .inl (M.2.2.2.2.2.2.1)))], [(A 5, .inl (cyI, 6, .inl (M.2.2.2.2.2.2.2.1)))], [(A 6, .inl (cyI, 6, .inl (M.2.2.2.2.2.2.2.2.1)))], [(A 7, .inl (cyI, 6, .inl (M.2.2.2.2.2.2.2.2.2.1)))]]) H := hP
    have hD : va_D A9 (cat [[(A 0, .inr (6, [.int (M.1), .ref (A 1), .ref (A 2), .int (nI (M.2.2.2.1)), .ref (A 3), .int (nI (M.2.2.2.2.2.1)), .ref (A 4), .ref (A 5), .ref (A 6), .ref (A 7), .int (M.2.2.2.2.2.2.2.2.2.2.1), .int (M.2.2.2.2.2.2.2.2.2.2.2)]))], [(A 1, .inl (cyI, 91, .inl (upd z1 (1 + (k + t)) (z1 ((1 + (k + t)) + 1)))))], [(A 2, .inl (cyI, 546, .inl (M.2.2.1)))], [(A 3, .inl (cyI, 60, .inl (M.2.2.2.2.1)))], [(A 4, .inl (cyI, 20, .inl (M.2.2.2.2.2.2.1)))], [(A 5, .inl (cyI, 6, .inl (M.2.2.2.2.2.2.2.1)))], [(A 6, .inl (cyI, 6, .inl (M.2.2.2.2.2.2.2.2.1)))], [(A 7, .inl (cyI, 6, .inl (M.2.2.2.2.2.2.2.2.2.1)))]]) := hD
    refine lv_aload_n hx hb dX6_doRemove_50 rfl (lv_at hl 2 rfl) ?_
    refine va_get (v := .ref (A 1)) (C := RX6) (T := TX6) (N := 12) hx hb hts hinX6 hown hK hP 0 rfl rfl 1 (by decide) hf7 (fun _ h9 => h9) rfl dX6_doRemove_51 ?_
    refine lv_bipush (v := (21 : Int32)) hx hb dX6_doRemove_54 (by decide) ?_
    refine lv_iload_n hx hb dX6_doRemove_56 rfl (lv_at hl 0 rfl) ?_
    refine lv_iadd hx hb dX6_doRemove_57 ?_
    refine top_i (x' := nI (21 + (k + t))) (nI_add (21) (k + t)) ?_
    refine lv_aload_n hx hb dX6_doRemove_58 rfl (lv_at hl 2 rfl) ?_
    refine va_get (v := .ref (A 1)) (C := RX6) (T := TX6) (N := 12) hx hb hts hinX6 hown hK hP 0 rfl rfl 1 (by decide) hf7 (fun _ h9 => h9) rfl dX6_doRemove_59 ?_
    refine lv_bipush (v := (21 : Int32)) hx hb dX6_doRemove_62 (by decide) ?_
    refine lv_iload_n hx hb dX6_doRemove_64 rfl (lv_at hl 0 rfl) ?_
    refine lv_iadd hx hb dX6_doRemove_65 ?_
    refine top_i (x' := nI (21 + (k + t))) (nI_add (21) (k + t)) ?_
    refine lv_iconst (v := (1 : Int32)) hx hb dX6_doRemove_66 (by decide) ?_
    refine lv_iadd hx hb dX6_doRemove_67 ?_
    refine top_i (x' := nI ((21 + (k + t)) + 1)) (nI_add (21 + (k + t)) (1)) ?_
    refine r_ild (k := (21 + (k + t)) + 1) (n := 91) (f := upd z1 (1 + (k + t)) (z1 ((1 + (k + t)) + 1))) hx hb hK hP 1 0 rfl rfl (by omega) (by omega) rfl dX6_doRemove_68 ?_
    refine r_ist (k := 21 + (k + t)) (n := 91) (f := upd z1 (1 + (k + t)) (z1 ((1 + (k + t)) + 1))) hx hb hK hP hD hS 1 0 rfl rfl (by omega) (by omega) rfl dX6_doRemove_69 (fun H locs hP hD hS => ?_)
    have hP : va_P G vwCl (cat [[(A 0, .inr (6, [.int (M.1), .ref (A 1), .ref (A 2), .int (nI (M.2.2.2.1)), .ref (A 3), .int (nI (M.2.2.2.2.2.1)), .ref (A 4), .ref (A 5), .ref (A 6), .ref (A 7), .int (M.2.2.2.2.2.2.2.2.2.2.1), .int (M.2.2.2.2.2.2.2.2.2.2.2)]))], [(A 1, .inl (cyI, 91, .inl (upd (upd z1 (1 + (k + t)) (z1 ((1 + (k + t)) + 1))) (21 + (k + t)) ((upd z1 (1 + (k + t)) (z1 ((1 + (k + t)) + 1))) ((21 + (k + t)) + 1)))))], [(A 2, .inl (cyI, 546, .inl (M.2.2.1)))], [(A 3, .inl (cyI, 60, .inl (M.2.2.2.2.1)))], [(A 4, .inl (cyI, 20, .inl (M.2.2.2.2.2.2.1)))], [(A 5, .inl (cyI, 6, .inl (M.2.2.2.2.2.2.2.1)))], [(A 6, .inl (cyI, 6, .inl (M.2.2.2.2.2.2.2.2.1)))], [(A 7, .inl (cyI, 6, .inl (M.2.2.2.2.2.2.2.2.2.1)))]]) H := hP
    have hD : va_D A9 (cat [[(A 0, .inr (6, [.int (M.1), .ref (A 1), .ref (A 2), .int (nI (M.2.2.2.1)), .ref (A 3), .int (nI (M.2.2.2.2.2.1)), .ref (A 4), .ref (A 5), .ref (A 6), .ref (A 7), .int (M.2.2.2.2.2.2.2.2.2.2.1), .int (M.2.2.2.2.2.2.2.2.2.2.2)]))], [(A 1, .inl (cyI, 91, .inl (upd (upd z1 (1 + (k + t)) (z1 ((1 + (k + t)) + 1))) (21 + (k + t)) ((upd z1 (1 + (k + t)) (z1 ((1 + (k + t)) + 1))) ((21 + (k + t)) + 1)))))], [(A 2, .inl (cyI, 546, .inl (M.2.2.1)))], [(A 3, .inl (cyI, 60, .inl (M.2.2.2.2.1)))], [(A 4, .inl (cyI, 20, .inl (M.2.2.2.2.2.2.1)))], [(A 5, .inl (cyI, 6, .inl (M.2.2.2.2.2.2.2.1)))], [(A 6, .inl (cyI, 6, .inl (M.2.2.2.2.2.2.2.2.1)))], [(A 7, .inl (cyI, 6, .inl (M.2.2.2.2.2.2.2.2.2.1)))]]) := hD
    refine lv_iinc (v := nI (k + t + 1)) (lv' := [(3, .int (nI (k + t + 1))), (2, .int (M.2.1 (21 + k))), (0, .ref (A 0)), (1, .int (nI (k)))]) hx hb dX6_doRemove_70 hl (k := 0) rfl (nI_add _ _) (by decide) rfl (fun ls hl => ?_)
    refine lv_goto (tgt := 22) hx hb dX6_doRemove_73 (by decide) ?_
    exact ih_22 (t + 1, upd (upd z1 (1 + (k + t)) (z1 ((1 + (k + t)) + 1))) (21 + (k + t)) ((upd z1 (1 + (k + t)) (z1 ((1 + (k + t)) + 1))) ((21 + (k + t)) + 1))) (by show (n - (t + 1)) < (n - t); omega) _ _ _ ⟨(show k + (t + 1) ≤ n - 1 from by omega), (show (upd (upd z1 (1 + (k + t)) (z1 ((1 + (k + t)) + 1))) (21 + (k + t)) ((upd z1 (1 + (k + t)) (z1 ((1 + (k + t)) + 1))) ((21 + (k + t)) + 1))) 0 = nI (n - 1) from by rw [pk_un (by omega), pk_un (by omega)]; exact hz1), (show (upd (upd z1 (1 + (k + t)) (z1 ((1 + (k + t)) + 1))) (21 + (k + t)) ((upd z1 (1 + (k + t)) (z1 ((1 + (k + t)) + 1))) ((21 + (k + t)) + 1))) = itr (t + 1) (rmStep k) (upd M.2.1 0 (nI (n - 1))) from by rw [he]; rfl), hP, hD, hS, lv_sub hl [0, 1, 2, 3] rfl⟩
abbrev rm_X6_noCome : Room := { frames := 2, cells := 0, slots := 0, locals := 42 }
set_option maxHeartbeats 4000000 in
set_option maxRecDepth 100000 in
theorem c_X6_noCome (l : Launch) (G : va_G) (cyI cyO : ClassId) (A : Nat → Nat) (M : MS) (n : Nat) (hM : MI M.2.1 n) (x : Int32) : CI l G (TY cyI cyO) yX6_noCome wsX6_noCome rm_X6_noCome [.ref (A 0), .int (x)] [mdW cyI A M] (mNoCome M.2.1 x) [mdW cyI A M] := by
  refine wk_I (cc := cX6_noCome) (maxL := 2) (ret := (some .int)) (by decide) rfl (Nat.le_of_ble_eq_true rfl) ?_
  intro p9 e9 s9 m9 b9 t9 c9 A9 ls hx hb hr hts hown hlocks hml hK hA hD hP hl hS hnm
  have hl : lv_has ls 2 [(0, .ref (A 0)), (1, .int (x))] := hl
  have hinX6 : ∀ w ∈ wsX60, w ∈ wsX6_noCome := by decide +kernel
  have hf7 := hts (.fieldLink RX6 7 "DoorstepRoundsModel" "z" "[I") (by decide +kernel)
  have hz : M.2.1 0 = nI n := hM.1
  have hn : n ≤ 20 := hM.2.1
  have hWk := hM.2.2.1
  have hOw := hM.2.2.2
  refine lv_iload_n hx hb dX6_noCome_0 rfl (lv_at hl 1 rfl) ?_
  refine gSi (gs := [mdW cyI A M]) (As := [.int (x)]) (rest := []) ⟨hx, hb, hml, hown, hts⟩ (c_X6_isMan l G cyI cyO x) (va_cwS 1 hts gX6_noCome_X6_isMan rfl rfl rfl (by decide +kernel) ⟨Nat.le_of_ble_eq_true rfl, Nat.le_of_ble_eq_true rfl⟩) hK hP hD hS hA [] rfl rfl rfl rfl hl.1 rfl (Nat.le_of_ble_eq_true rfl) dX6_noCome_1 ⟨Nat.le_refl _, Nat.le_refl _⟩ (fun H locs hP hD hS => ?_)
  have hP : va_P G vwCl (cat [mdW cyI A M]) H := hP
  have hD : va_D A9 (cat [mdW cyI A M]) := hD
  refine lv_if_ne (tgt := 11) hx hb dX6_noCome_4 (by decide) (fun c_4 => ?_) (fun c_4 => ?_)
  · have c_4 : (isDig x 0 5) = true := bI_nz.mp c_4
    obtain ⟨k, hk, rfl⟩ := dig_nat c_4
    have hl : lv_has ls 2 [(0, .ref (A 0)), (1, .int (nI (k)))] := hl
    refine lv_aload_n hx hb dX6_noCome_11 rfl (lv_at hl 0 rfl) ?_
    refine va_get (v := .ref (A 1)) (C := RX6) (T := TX6) (N := 12) hx hb hts hinX6 hown hK hP 0 rfl rfl 1 (by decide) hf7 (fun _ h9 => h9) rfl dX6_noCome_12 ?_
    refine lv_bipush (v := (87 : Int32)) hx hb dX6_noCome_15 (by decide) ?_
    refine r_ild (k := 87) (n := 91) (f := M.2.1) hx hb hK hP 1 0 rfl rfl (by omega) (by omega) rfl dX6_noCome_17 ?_
    refine lv_if_gt (tgt := 29) hx hb dX6_noCome_18 (by decide) (fun c_18 => ?_) (fun c_18 => ?_)
    · refine lv_iconst (v := (2 : Int32)) hx hb dX6_noCome_29 (by decide) ?_
      refine lv_goto (tgt := 34) hx hb dX6_noCome_30 (by decide) ?_
      have hP : va_P G vwCl (cat [mdW cyI A M]) H := hP
      have hD : va_D A9 (cat [mdW cyI A M]) := hD
      exact end_i hx hb hr hlocks hK hP hD hS (by simp [mNoCome, c_4, c_18] <;> simp [nI_clamp (show k < 2147483648 by omega), c_4, c_18]) dX6_noCome_34
    · refine lv_aload_n hx hb dX6_noCome_21 rfl (lv_at hl 0 rfl) ?_
      refine lv_iload_n hx hb dX6_noCome_22 rfl (lv_at hl 1 rfl) ?_
      refine gVi (gs := [mdW cyI A M]) (As := [.int (nI (k))]) (rest := []) ⟨hx, hb, hml, hown, hts⟩ (c_X6_works l G cyI cyO A M n hM k (by omega)) (cwV 1 hts gX6_noCome_X6_works rfl rfl rfl (by decide +kernel) ⟨Nat.le_of_ble_eq_true rfl, Nat.le_of_ble_eq_true rfl⟩) hK hP hD hS hA [0] rfl rfl rfl 0 6 rfl rfl rfl hl.1 rfl (Nat.le_of_ble_eq_true rfl) dX6_noCome_23 ⟨Nat.le_refl _, Nat.le_refl _⟩ (fun H locs hP hD hS => ?_)
      have hP : va_P G vwCl (cat [mdW cyI A M]) H := hP
      have hD : va_D A9 (cat [mdW cyI A M]) := hD
      refine lv_if_eq (tgt := 33) hx hb dX6_noCome_26 (by decide) (fun c_26 => ?_) (fun c_26 => ?_)
      · have c_26 : (decide (M.2.1 (81 + k) = 1)) = false := bI_z.mp c_26
        have c_26 : ¬ (M.2.1 (81 + k) = 1) := of_decide_eq_false c_26
        refine lv_iconst (v := (0 : Int32)) hx hb dX6_noCome_33 (by decide) ?_
        have hP : va_P G vwCl (cat [mdW cyI A M]) H := hP
        have hD : va_D A9 (cat [mdW cyI A M]) := hD
        exact end_i hx hb hr hlocks hK hP hD hS (by simp [mNoCome, c_4, c_18, c_26] <;> simp [nI_clamp (show k < 2147483648 by omega), c_4, c_18, c_26]) dX6_noCome_34
      · have c_26 : (decide (M.2.1 (81 + k) = 1)) = true := bI_nz.mp c_26
        have c_26 : (M.2.1 (81 + k) = 1) := of_decide_eq_true c_26
        refine lv_iconst (v := (2 : Int32)) hx hb dX6_noCome_29 (by decide) ?_
        refine lv_goto (tgt := 34) hx hb dX6_noCome_30 (by decide) ?_
        have hP : va_P G vwCl (cat [mdW cyI A M]) H := hP
        have hD : va_D A9 (cat [mdW cyI A M]) := hD
        exact end_i hx hb hr hlocks hK hP hD hS (by simp [mNoCome, c_4, c_18, c_26] <;> simp [nI_clamp (show k < 2147483648 by omega), c_4, c_18, c_26]) dX6_noCome_34
  · have c_4 : (isDig x 0 5) = false := bI_z.mp c_4
    refine lv_iconst (v := (1 : Int32)) hx hb dX6_noCome_7 (by decide) ?_
    refine lv_goto (tgt := 34) hx hb dX6_noCome_8 (by decide) ?_
    have hP : va_P G vwCl (cat [mdW cyI A M]) H := hP
    have hD : va_D A9 (cat [mdW cyI A M]) := hD
    exact end_i hx hb hr hlocks hK hP hD hS (by simp [mNoCome, c_4] <;> simp [nI_clamp (show k < 2147483648 by omega), c_4]) dX6_noCome_34
abbrev rm_X6_noLeave : Room := { frames := 2, cells := 0, slots := 0, locals := 42 }
set_option maxHeartbeats 4000000 in
set_option maxRecDepth 100000 in
theorem c_X6_noLeave (l : Launch) (G : va_G) (cyI cyO : ClassId) (A : Nat → Nat) (M : MS) (n : Nat) (hM : MI M.2.1 n) (x : Int32) : CI l G (TY cyI cyO) yX6_noLeave wsX6_noLeave rm_X6_noLeave [.ref (A 0), .int (x)] [mdW cyI A M] (mNoLeave M.2.1 x) [mdW cyI A M] := by
  refine wk_I (cc := cX6_noLeave) (maxL := 2) (ret := (some .int)) (by decide) rfl (Nat.le_of_ble_eq_true rfl) ?_
  intro p9 e9 s9 m9 b9 t9 c9 A9 ls hx hb hr hts hown hlocks hml hK hA hD hP hl hS hnm
  have hl : lv_has ls 2 [(0, .ref (A 0)), (1, .int (x))] := hl
  have hinX6 : ∀ w ∈ wsX60, w ∈ wsX6_noLeave := by decide +kernel
  have hf7 := hts (.fieldLink RX6 7 "DoorstepRoundsModel" "z" "[I") (by decide +kernel)
  have hz : M.2.1 0 = nI n := hM.1
  have hn : n ≤ 20 := hM.2.1
  have hWk := hM.2.2.1
  have hOw := hM.2.2.2
  refine lv_iload_n hx hb dX6_noLeave_0 rfl (lv_at hl 1 rfl) ?_
  refine gSi (gs := [mdW cyI A M]) (As := [.int (x)]) (rest := []) ⟨hx, hb, hml, hown, hts⟩ (c_X6_isMan l G cyI cyO x) (va_cwS 1 hts gX6_noLeave_X6_isMan rfl rfl rfl (by decide +kernel) ⟨Nat.le_of_ble_eq_true rfl, Nat.le_of_ble_eq_true rfl⟩) hK hP hD hS hA [] rfl rfl rfl rfl hl.1 rfl (Nat.le_of_ble_eq_true rfl) dX6_noLeave_1 ⟨Nat.le_refl _, Nat.le_refl _⟩ (fun H locs hP hD hS => ?_)
  have hP : va_P G vwCl (cat [mdW cyI A M]) H := hP
  have hD : va_D A9 (cat [mdW cyI A M]) := hD
  refine lv_if_ne (tgt := 11) hx hb dX6_noLeave_4 (by decide) (fun c_4 => ?_) (fun c_4 => ?_)
  · have c_4 : (isDig x 0 5) = true := bI_nz.mp c_4
    obtain ⟨k, hk, rfl⟩ := dig_nat c_4
    have hl : lv_has ls 2 [(0, .ref (A 0)), (1, .int (nI (k)))] := hl
    refine lv_aload_n hx hb dX6_noLeave_11 rfl (lv_at hl 0 rfl) ?_
    refine va_get (v := .ref (A 1)) (C := RX6) (T := TX6) (N := 12) hx hb hts hinX6 hown hK hP 0 rfl rfl 1 (by decide) hf7 (fun _ h9 => h9) rfl dX6_noLeave_12 ?_
    refine lv_bipush (v := (87 : Int32)) hx hb dX6_noLeave_15 (by decide) ?_
    refine r_ild (k := 87) (n := 91) (f := M.2.1) hx hb hK hP 1 0 rfl rfl (by omega) (by omega) rfl dX6_noLeave_17 ?_
    refine lv_if_gt (tgt := 29) hx hb dX6_noLeave_18 (by decide) (fun c_18 => ?_) (fun c_18 => ?_)
    · refine lv_iconst (v := (2 : Int32)) hx hb dX6_noLeave_29 (by decide) ?_
      refine lv_goto (tgt := 34) hx hb dX6_noLeave_30 (by decide) ?_
      have hP : va_P G vwCl (cat [mdW cyI A M]) H := hP
      have hD : va_D A9 (cat [mdW cyI A M]) := hD
      exact end_i hx hb hr hlocks hK hP hD hS (by simp [mNoLeave, c_4, c_18] <;> simp [nI_clamp (show k < 2147483648 by omega), c_4, c_18]) dX6_noLeave_34
    · refine lv_aload_n hx hb dX6_noLeave_21 rfl (lv_at hl 0 rfl) ?_
      refine lv_iload_n hx hb dX6_noLeave_22 rfl (lv_at hl 1 rfl) ?_
      refine gVi (gs := [mdW cyI A M]) (As := [.int (nI (k))]) (rest := []) ⟨hx, hb, hml, hown, hts⟩ (c_X6_works l G cyI cyO A M n hM k (by omega)) (cwV 1 hts gX6_noLeave_X6_works rfl rfl rfl (by decide +kernel) ⟨Nat.le_of_ble_eq_true rfl, Nat.le_of_ble_eq_true rfl⟩) hK hP hD hS hA [0] rfl rfl rfl 0 6 rfl rfl rfl hl.1 rfl (Nat.le_of_ble_eq_true rfl) dX6_noLeave_23 ⟨Nat.le_refl _, Nat.le_refl _⟩ (fun H locs hP hD hS => ?_)
      have hP : va_P G vwCl (cat [mdW cyI A M]) H := hP
      have hD : va_D A9 (cat [mdW cyI A M]) := hD
      refine lv_if_ne (tgt := 33) hx hb dX6_noLeave_26 (by decide) (fun c_26 => ?_) (fun c_26 => ?_)
      · have c_26 : (decide (M.2.1 (81 + k) = 1)) = true := bI_nz.mp c_26
        have c_26 : (M.2.1 (81 + k) = 1) := of_decide_eq_true c_26
        refine lv_iconst (v := (0 : Int32)) hx hb dX6_noLeave_33 (by decide) ?_
        have hP : va_P G vwCl (cat [mdW cyI A M]) H := hP
        have hD : va_D A9 (cat [mdW cyI A M]) := hD
        exact end_i hx hb hr hlocks hK hP hD hS (by simp [mNoLeave, c_4, c_18, c_26] <;> simp [nI_clamp (show k < 2147483648 by omega), c_4, c_18, c_26]) dX6_noLeave_34
      · have c_26 : (decide (M.2.1 (81 + k) = 1)) = false := bI_z.mp c_26
        have c_26 : ¬ (M.2.1 (81 + k) = 1) := of_decide_eq_false c_26
        refine lv_iconst (v := (2 : Int32)) hx hb dX6_noLeave_29 (by decide) ?_
        refine lv_goto (tgt := 34) hx hb dX6_noLeave_30 (by decide) ?_
        have hP : va_P G vwCl (cat [mdW cyI A M]) H := hP
        have hD : va_D A9 (cat [mdW cyI A M]) := hD
        exact end_i hx hb hr hlocks hK hP hD hS (by simp [mNoLeave, c_4, c_18, c_26] <;> simp [nI_clamp (show k < 2147483648 by omega), c_4, c_18, c_26]) dX6_noLeave_34
  · have c_4 : (isDig x 0 5) = false := bI_z.mp c_4
    refine lv_iconst (v := (1 : Int32)) hx hb dX6_noLeave_7 (by decide) ?_
    refine lv_goto (tgt := 34) hx hb dX6_noLeave_8 (by decide) ?_
    have hP : va_P G vwCl (cat [mdW cyI A M]) H := hP
    have hD : va_D A9 (cat [mdW cyI A M]) := hD
    exact end_i hx hb hr hlocks hK hP hD hS (by simp [mNoLeave, c_4] <;> simp [nI_clamp (show k < 2147483648 by omega), c_4]) dX6_noLeave_34
abbrev rm_X6_doCome : Room := { frames := 1, cells := 0, slots := 0, locals := 22 }
set_option maxHeartbeats 4000000 in
set_option maxRecDepth 100000 in
theorem c_X6_doCome (l : Launch) (G : va_G) (cyI cyO : ClassId) (A : Nat → Nat) (M : MS) (n : Nat) (hM : MI M.2.1 n) (k : Nat) (hk : k < 6) : CI l G (TY cyI cyO) yX6_doCome wsX6_doCome rm_X6_doCome [.ref (A 0), .int (nI (k))] [mdW cyI A M] (nI (cW (zW (upd M.2.1 (81 + k) 1)))) [mdW cyI A ((M.1, upd M.2.1 (81 + k) 1, M.2.2.1, M.2.2.2.1, M.2.2.2.2.1, M.2.2.2.2.2.1, M.2.2.2.2.2.2.1, M.2.2.2.2.2.2.2.1, M.2.2.2.2.2.2.2.2.1, M.2.2.2.2.2.2.2.2.2.1, M.2.2.2.2.2.2.2.2.2.2.1, M.2.2.2.2.2.2.2.2.2.2.2))] := by
  refine wk_I (cc := cX6_doCome) (maxL := 2) (ret := (some .int)) (by decide) rfl (Nat.le_of_ble_eq_true rfl) ?_
  intro p9 e9 s9 m9 b9 t9 c9 A9 ls hx hb hr hts hown hlocks hml hK hA hD hP hl hS hnm
  have hl : lv_has ls 2 [(0, .ref (A 0)), (1, .int (nI (k)))] := hl
  have hinX6 : ∀ w ∈ wsX60, w ∈ wsX6_doCome := by decide +kernel
  have hf7 := hts (.fieldLink RX6 7 "DoorstepRoundsModel" "z" "[I") (by decide +kernel)
  have hz : M.2.1 0 = nI n := hM.1
  have hn : n ≤ 20 := hM.2.1
  have hWk := hM.2.2.1
  have hOw := hM.2.2.2
  have hP : va_P G vwCl (cat [[(A 0, .inr (6, [.int (M.1), .ref (A 1), .ref (A 2), .int (nI (M.2.2.2.1)), .ref (A 3), .int (nI (M.2.2.2.2.2.1)), .ref (A 4), .ref (A 5), .ref (A 6), .ref (A 7), .int (M.2.2.2.2.2.2.2.2.2.2.1), .int (M.2.2.2.2.2.2.2.2.2.2.2)]))], [(A 1, .inl (cyI, 91, .inl (M.2.1)))], [(A 2, .inl (cyI, 546, .inl (M.2.2.1)))], [(A 3, .inl (cyI, 60, .inl (M.2.2.2.2.1)))], [(A 4, .inl (cyI, 20, .inl (M.2.2.2.2.2.2.1)))], [(A 5, .inl (cyI, 6, .inl (M.2.2.2.2.2.2.2.1)))], [(A 6, .inl (cyI, 6, .inl (M.2.2.2.2.2.2.2.2.1)))], [(A 7, .inl (cyI, 6, .inl (M.2.2.2.2.2.2.2.2.2.1)))]]) s9.heap := hP
  have hD : va_D A9 (cat [[(A 0, .inr (6, [.int (M.1), .ref (A 1), .ref (A 2), .int (nI (M.2.2.2.1)), .ref (A 3), .int (nI (M.2.2.2.2.2.1)), .ref (A 4), .ref (A 5), .ref (A 6), .ref (A 7), .int (M.2.2.2.2.2.2.2.2.2.2.1), .int (M.2.2.2.2.2.2.2.2.2.2.2)]))], [(A 1, .inl (cyI, 91, .inl (M.2.1)))], [(A 2, .inl (cyI, 546, .inl (M.2.2.1)))], [(A 3, .inl (cyI, 60, .inl (M.2.2.2.2.1)))], [(A 4, .inl (cyI, 20, .inl (M.2.2.2.2.2.2.1)))], [(A 5, .inl (cyI, 6, .inl (M.2.2.2.2.2.2.2.1)))], [(A 6, .inl (cyI, 6, .inl (M.2.2.2.2.2.2.2.2.1)))], [(A 7, .inl (cyI, 6, .inl (M.2.2.2.2.2.2.2.2.2.1)))]]) := hD
  refine lv_aload_n hx hb dX6_doCome_0 rfl (lv_at hl 0 rfl) ?_
  refine va_get (v := .ref (A 1)) (C := RX6) (T := TX6) (N := 12) hx hb hts hinX6 hown hK hP 0 rfl rfl 1 (by decide) hf7 (fun _ h9 => h9) rfl dX6_doCome_1 ?_
  refine lv_bipush (v := (81 : Int32)) hx hb dX6_doCome_4 (by decide) ?_
  refine lv_iload_n hx hb dX6_doCome_6 rfl (lv_at hl 1 rfl) ?_
  refine lv_iadd hx hb dX6_doCome_7 ?_
  refine top_i (x' := nI (81 + k)) (nI_add (81) (k)) ?_
  refine lv_iconst (v := (1 : Int32)) hx hb dX6_doCome_8 (by decide) ?_
  refine r_ist (k := 81 + k) (n := 91) (f := M.2.1) hx hb hK hP hD hS 1 0 rfl rfl (by omega) (by omega) rfl dX6_doCome_9 (fun H locs hP hD hS => ?_)
  have hP : va_P G vwCl (cat [[(A 0, .inr (6, [.int (M.1), .ref (A 1), .ref (A 2), .int (nI (M.2.2.2.1)), .ref (A 3), .int (nI (M.2.2.2.2.2.1)), .ref (A 4), .ref (A 5), .ref (A 6), .ref (A 7), .int (M.2.2.2.2.2.2.2.2.2.2.1), .int (M.2.2.2.2.2.2.2.2.2.2.2)]))], [(A 1, .inl (cyI, 91, .inl (upd M.2.1 (81 + k) ((1 : Int32)))))], [(A 2, .inl (cyI, 546, .inl (M.2.2.1)))], [(A 3, .inl (cyI, 60, .inl (M.2.2.2.2.1)))], [(A 4, .inl (cyI, 20, .inl (M.2.2.2.2.2.2.1)))], [(A 5, .inl (cyI, 6, .inl (M.2.2.2.2.2.2.2.1)))], [(A 6, .inl (cyI, 6, .inl (M.2.2.2.2.2.2.2.2.1)))], [(A 7, .inl (cyI, 6, .inl (M.2.2.2.2.2.2.2.2.2.1)))]]) H := hP
  have hD : va_D A9 (cat [[(A 0, .inr (6, [.int (M.1), .ref (A 1), .ref (A 2), .int (nI (M.2.2.2.1)), .ref (A 3), .int (nI (M.2.2.2.2.2.1)), .ref (A 4), .ref (A 5), .ref (A 6), .ref (A 7), .int (M.2.2.2.2.2.2.2.2.2.2.1), .int (M.2.2.2.2.2.2.2.2.2.2.2)]))], [(A 1, .inl (cyI, 91, .inl (upd M.2.1 (81 + k) ((1 : Int32)))))], [(A 2, .inl (cyI, 546, .inl (M.2.2.1)))], [(A 3, .inl (cyI, 60, .inl (M.2.2.2.2.1)))], [(A 4, .inl (cyI, 20, .inl (M.2.2.2.2.2.2.1)))], [(A 5, .inl (cyI, 6, .inl (M.2.2.2.2.2.2.2.1)))], [(A 6, .inl (cyI, 6, .inl (M.2.2.2.2.2.2.2.2.1)))], [(A 7, .inl (cyI, 6, .inl (M.2.2.2.2.2.2.2.2.2.1)))]]) := hD
  refine lv_aload_n hx hb dX6_doCome_10 rfl (lv_at hl 0 rfl) ?_
  have hP : va_P G vwCl (cat [mdW cyI A ((M.1, upd M.2.1 (81 + k) ((1 : Int32)), M.2.2.1, M.2.2.2.1, M.2.2.2.2.1, M.2.2.2.2.2.1, M.2.2.2.2.2.2.1, M.2.2.2.2.2.2.2.1, M.2.2.2.2.2.2.2.2.1, M.2.2.2.2.2.2.2.2.2.1, M.2.2.2.2.2.2.2.2.2.2.1, M.2.2.2.2.2.2.2.2.2.2.2))]) H := hP
  have hD : va_D A9 (cat [mdW cyI A ((M.1, upd M.2.1 (81 + k) ((1 : Int32)), M.2.2.1, M.2.2.2.1, M.2.2.2.2.1, M.2.2.2.2.2.1, M.2.2.2.2.2.2.1, M.2.2.2.2.2.2.2.1, M.2.2.2.2.2.2.2.2.1, M.2.2.2.2.2.2.2.2.2.1, M.2.2.2.2.2.2.2.2.2.2.1, M.2.2.2.2.2.2.2.2.2.2.2))]) := hD
  refine gVi (gs := [mdW cyI A ((M.1, upd M.2.1 (81 + k) ((1 : Int32)), M.2.2.1, M.2.2.2.1, M.2.2.2.2.1, M.2.2.2.2.2.1, M.2.2.2.2.2.2.1, M.2.2.2.2.2.2.2.1, M.2.2.2.2.2.2.2.2.1, M.2.2.2.2.2.2.2.2.2.1, M.2.2.2.2.2.2.2.2.2.2.1, M.2.2.2.2.2.2.2.2.2.2.2))]) (As := []) (rest := []) ⟨hx, hb, hml, hown, hts⟩ (c_X6_men l G cyI cyO A ((M.1, upd M.2.1 (81 + k) ((1 : Int32)), M.2.2.1, M.2.2.2.1, M.2.2.2.2.1, M.2.2.2.2.2.1, M.2.2.2.2.2.2.1, M.2.2.2.2.2.2.2.1, M.2.2.2.2.2.2.2.2.1, M.2.2.2.2.2.2.2.2.2.1, M.2.2.2.2.2.2.2.2.2.2.1, M.2.2.2.2.2.2.2.2.2.2.2)) n (MI_work hM hk (Or.inr rfl))) (cwV 0 hts gX6_doCome_X6_men rfl rfl rfl (by decide +kernel) ⟨Nat.le_of_ble_eq_true rfl, Nat.le_of_ble_eq_true rfl⟩) hK hP hD hS hA [0] rfl rfl rfl 0 6 rfl rfl rfl hl.1 rfl (Nat.le_of_ble_eq_true rfl) dX6_doCome_11 ⟨Nat.le_refl _, Nat.le_refl _⟩ (fun H locs hP hD hS => ?_)
  have hP : va_P G vwCl (cat [mdW cyI A ((M.1, upd M.2.1 (81 + k) ((1 : Int32)), M.2.2.1, M.2.2.2.1, M.2.2.2.2.1, M.2.2.2.2.2.1, M.2.2.2.2.2.2.1, M.2.2.2.2.2.2.2.1, M.2.2.2.2.2.2.2.2.1, M.2.2.2.2.2.2.2.2.2.1, M.2.2.2.2.2.2.2.2.2.2.1, M.2.2.2.2.2.2.2.2.2.2.2))]) H := hP
  have hD : va_D A9 (cat [mdW cyI A ((M.1, upd M.2.1 (81 + k) ((1 : Int32)), M.2.2.1, M.2.2.2.1, M.2.2.2.2.1, M.2.2.2.2.2.1, M.2.2.2.2.2.2.1, M.2.2.2.2.2.2.2.1, M.2.2.2.2.2.2.2.2.1, M.2.2.2.2.2.2.2.2.2.1, M.2.2.2.2.2.2.2.2.2.2.1, M.2.2.2.2.2.2.2.2.2.2.2))]) := hD
  have hP : va_P G vwCl (cat [mdW cyI A ((M.1, upd M.2.1 (81 + k) 1, M.2.2.1, M.2.2.2.1, M.2.2.2.2.1, M.2.2.2.2.2.1, M.2.2.2.2.2.2.1, M.2.2.2.2.2.2.2.1, M.2.2.2.2.2.2.2.2.1, M.2.2.2.2.2.2.2.2.2.1, M.2.2.2.2.2.2.2.2.2.2.1, M.2.2.2.2.2.2.2.2.2.2.2))]) H := hP
  have hD : va_D A9 (cat [mdW cyI A ((M.1, upd M.2.1 (81 + k) 1, M.2.2.1, M.2.2.2.1, M.2.2.2.2.1, M.2.2.2.2.2.1, M.2.2.2.2.2.2.1, M.2.2.2.2.2.2.2.1, M.2.2.2.2.2.2.2.2.1, M.2.2.2.2.2.2.2.2.2.1, M.2.2.2.2.2.2.2.2.2.2.1, M.2.2.2.2.2.2.2.2.2.2.2))]) := hD
  exact end_i hx hb hr hlocks hK hP hD hS (rfl) dX6_doCome_14
abbrev rm_X6_doLeave : Room := { frames := 1, cells := 0, slots := 0, locals := 23 }
set_option maxHeartbeats 4000000 in
set_option maxRecDepth 100000 in
theorem c_X6_doLeave (l : Launch) (G : va_G) (cyI cyO : ClassId) (A : Nat → Nat) (M : MS) (n : Nat) (hM : MI M.2.1 n) (k : Nat) (hk : k < 6) : CI l G (TY cyI cyO) yX6_doLeave wsX6_doLeave rm_X6_doLeave [.ref (A 0), .int (nI (k))] [mdW cyI A M] (nI (rSz (zO M.2.1) n (nI k))) [mdW cyI A ((M.1, dlAll n (nI k) (upd M.2.1 (81 + k) 0), M.2.2.1, M.2.2.2.1, M.2.2.2.2.1, M.2.2.2.2.2.1, M.2.2.2.2.2.2.1, M.2.2.2.2.2.2.2.1, M.2.2.2.2.2.2.2.2.1, M.2.2.2.2.2.2.2.2.2.1, M.2.2.2.2.2.2.2.2.2.2.1, M.2.2.2.2.2.2.2.2.2.2.2))] := by
  refine wk_I (cc := cX6_doLeave) (maxL := 4) (ret := (some .int)) (by decide) rfl (Nat.le_of_ble_eq_true rfl) ?_
  intro p9 e9 s9 m9 b9 t9 c9 A9 ls hx hb hr hts hown hlocks hml hK hA hD hP hl hS hnm
  have hl : lv_has ls 4 [(0, .ref (A 0)), (1, .int (nI (k)))] := hl
  have hinX6 : ∀ w ∈ wsX60, w ∈ wsX6_doLeave := by decide +kernel
  have hf7 := hts (.fieldLink RX6 7 "DoorstepRoundsModel" "z" "[I") (by decide +kernel)
  have hz : M.2.1 0 = nI n := hM.1
  have hn : n ≤ 20 := hM.2.1
  have hWk := hM.2.2.1
  have hOw := hM.2.2.2
  refine lv_aload_n hx hb dX6_doLeave_0 rfl (lv_at hl 0 rfl) ?_
  refine lv_iload_n hx hb dX6_doLeave_1 rfl (lv_at hl 1 rfl) ?_
  refine gVi (gs := [mdW cyI A M]) (As := [.int (nI (k))]) (rest := []) ⟨hx, hb, hml, hown, hts⟩ (c_X6_sizeOf l G cyI cyO A M n hM (nI (k))) (cwV 1 hts gX6_doLeave_X6_sizeOf rfl rfl rfl (by decide +kernel) ⟨Nat.le_of_ble_eq_true rfl, Nat.le_of_ble_eq_true rfl⟩) hK hP hD hS hA [0] rfl rfl rfl 0 6 rfl rfl rfl hl.1 rfl (Nat.le_of_ble_eq_true rfl) dX6_doLeave_2 ⟨Nat.le_refl _, Nat.le_refl _⟩ (fun H locs hP hD hS => ?_)
  have hP : va_P G vwCl (cat [mdW cyI A M]) H := hP
  have hD : va_D A9 (cat [mdW cyI A M]) := hD
  refine lv_istore_n (lv' := [(2, .int (nI (rSz (zO M.2.1) n (nI (k))))), (0, .ref (A 0)), (1, .int (nI (k)))]) hx hb dX6_doLeave_5 rfl hl (by decide) rfl (fun ls hl => ?_)
  refine lv_aload_n hx hb dX6_doLeave_6 rfl (lv_at hl 1 rfl) ?_
  refine va_get (v := .ref (A 1)) (C := RX6) (T := TX6) (N := 12) hx hb hts hinX6 hown hK hP 0 rfl rfl 1 (by decide) hf7 (fun _ h9 => h9) rfl dX6_doLeave_7 ?_
  refine lv_bipush (v := (81 : Int32)) hx hb dX6_doLeave_10 (by decide) ?_
  refine lv_iload_n hx hb dX6_doLeave_12 rfl (lv_at hl 2 rfl) ?_
  refine lv_iadd hx hb dX6_doLeave_13 ?_
  refine top_i (x' := nI (81 + k)) (nI_add (81) (k)) ?_
  refine lv_iconst (v := (0 : Int32)) hx hb dX6_doLeave_14 (by decide) ?_
  have hP : va_P G vwCl (cat [[(A 0, .inr (6, [.int (M.1), .ref (A 1), .ref (A 2), .int (nI (M.2.2.2.1)), .ref (A 3), .int (nI (M.2.2.2.2.2.1)), .ref (A 4), .ref (A 5), .ref (A 6), .ref (A 7), .int (M.2.2.2.2.2.2.2.2.2.2.1), .int (M.2.2.2.2.2.2.2.2.2.2.2)]))], [(A 1, .inl (cyI, 91, .inl (M.2.1)))], [(A 2, .inl (cyI, 546, .inl (M.2.2.1)))], [(A 3, .inl (cyI, 60, .inl (M.2.2.2.2.1)))], [(A 4, .inl (cyI, 20, .inl (M.2.2.2.2.2.2.1)))], [(A 5, .inl (cyI, 6, .inl (M.2.2.2.2.2.2.2.1)))], [(A 6, .inl (cyI, 6, .inl (M.2.2.2.2.2.2.2.2.1)))], [(A 7, .inl (cyI, 6, .inl (M.2.2.2.2.2.2.2.2.2.1)))]]) H := hP
  have hD : va_D A9 (cat [[(A 0, .inr (6, [.int (M.1), .ref (A 1), .ref (A 2), .int (nI (M.2.2.2.1)), .ref (A 3), .int (nI (M.2.2.2.2.2.1)), .ref (A 4), .ref (A 5), .ref (A 6), .ref (A 7), .int (M.2.2.2.2.2.2.2.2.2.2.1), .int (M.2.2.2.2.2.2.2.2.2.2.2)]))], [(A 1, .inl (cyI, 91, .inl (M.2.1)))], [(A 2, .inl (cyI, 546, .inl (M.2.2.1)))], [(A 3, .inl (cyI, 60, .inl (M.2.2.2.2.1)))], [(A 4, .inl (cyI, 20, .inl (M.2.2.2.2.2.2.1)))], [(A 5, .inl (cyI, 6, .inl (M.2.2.2.2.2.2.2.1)))], [(A 6, .inl (cyI, 6, .inl (M.2.2.2.2.2.2.2.2.1)))], [(A 7, .inl (cyI, 6, .inl (M.2.2.2.2.2.2.2.2.2.1)))]]) := hD
  refine r_ist (k := 81 + k) (n := 91) (f := M.2.1) hx hb hK hP hD hS 1 0 rfl rfl (by omega) (by omega) rfl dX6_doLeave_15 (fun H locs hP hD hS => ?_)
  have hP : va_P G vwCl (cat [[(A 0, .inr (6, [.int (M.1), .ref (A 1), .ref (A 2), .int (nI (M.2.2.2.1)), .ref (A 3), .int (nI (M.2.2.2.2.2.1)), .ref (A 4), .ref (A 5), .ref (A 6), .ref (A 7), .int (M.2.2.2.2.2.2.2.2.2.2.1), .int (M.2.2.2.2.2.2.2.2.2.2.2)]))], [(A 1, .inl (cyI, 91, .inl (upd M.2.1 (81 + k) ((0 : Int32)))))], [(A 2, .inl (cyI, 546, .inl (M.2.2.1)))], [(A 3, .inl (cyI, 60, .inl (M.2.2.2.2.1)))], [(A 4, .inl (cyI, 20, .inl (M.2.2.2.2.2.2.1)))], [(A 5, .inl (cyI, 6, .inl (M.2.2.2.2.2.2.2.1)))], [(A 6, .inl (cyI, 6, .inl (M.2.2.2.2.2.2.2.2.1)))], [(A 7, .inl (cyI, 6, .inl (M.2.2.2.2.2.2.2.2.2.1)))]]) H := hP
  have hD : va_D A9 (cat [[(A 0, .inr (6, [.int (M.1), .ref (A 1), .ref (A 2), .int (nI (M.2.2.2.1)), .ref (A 3), .int (nI (M.2.2.2.2.2.1)), .ref (A 4), .ref (A 5), .ref (A 6), .ref (A 7), .int (M.2.2.2.2.2.2.2.2.2.2.1), .int (M.2.2.2.2.2.2.2.2.2.2.2)]))], [(A 1, .inl (cyI, 91, .inl (upd M.2.1 (81 + k) ((0 : Int32)))))], [(A 2, .inl (cyI, 546, .inl (M.2.2.1)))], [(A 3, .inl (cyI, 60, .inl (M.2.2.2.2.1)))], [(A 4, .inl (cyI, 20, .inl (M.2.2.2.2.2.2.1)))], [(A 5, .inl (cyI, 6, .inl (M.2.2.2.2.2.2.2.1)))], [(A 6, .inl (cyI, 6, .inl (M.2.2.2.2.2.2.2.2.1)))], [(A 7, .inl (cyI, 6, .inl (M.2.2.2.2.2.2.2.2.2.1)))]]) := hD
  refine lv_iconst (v := (0 : Int32)) hx hb dX6_doLeave_16 (by decide) ?_
  refine lv_istore_n (lv' := [(3, .int ((0 : Int32))), (2, .int (nI (rSz (zO M.2.1) n (nI (k))))), (0, .ref (A 0)), (1, .int (nI (k)))]) hx hb dX6_doLeave_17 rfl hl (by decide) rfl (fun ls hl => ?_)
  refine W_loop (α := Nat × (Nat → Int32)) (I := fun a9 H locs ls => (a9.1 ≤ n) ∧ (a9.2 0 = nI n) ∧ (a9.2 = itr a9.1 (dlStep (nI k)) (upd M.2.1 (81 + k) 0)) ∧ va_P G vwCl (cat [[(A 0, .inr (6, [.int (M.1), .ref (A 1), .ref (A 2), .int (nI (M.2.2.2.1)), .ref (A 3), .int (nI (M.2.2.2.2.2.1)), .ref (A 4), .ref (A 5), .ref (A 6), .ref (A 7), .int (M.2.2.2.2.2.2.2.2.2.2.1), .int (M.2.2.2.2.2.2.2.2.2.2.2)]))], [(A 1, .inl (cyI, 91, .inl (a9.2)))], [(A 2, .inl (cyI, 546, .inl (M.2.2.1)))], [(A 3, .inl (cyI, 60, .inl (M.2.2.2.2.1)))], [(A 4, .inl (cyI, 20, .inl (M.2.2.2.2.2.2.1)))], [(A 5, .inl (cyI, 6, .inl (M.2.2.2.2.2.2.2.1)))], [(A 6, .inl (cyI, 6, .inl (M.2.2.2.2.2.2.2.2.1)))], [(A 7, .inl (cyI, 6, .inl (M.2.2.2.2.2.2.2.2.2.1)))]]) H ∧ va_D A9 (cat [[(A 0, .inr (6, [.int (M.1), .ref (A 1), .ref (A 2), .int (nI (M.2.2.2.1)), .ref (A 3), .int (nI (M.2.2.2.2.2.1)), .ref (A 4), .ref (A 5), .ref (A 6), .ref (A 7), .int (M.2.2.2.2.2.2.2.2.2.2.1), .int (M.2.2.2.2.2.2.2.2.2.2.2)]))], [(A 1, .inl (cyI, 91, .inl (a9.2)))], [(A 2, .inl (cyI, 546, .inl (M.2.2.1)))], [(A 3, .inl (cyI, 60, .inl (M.2.2.2.2.1)))], [(A 4, .inl (cyI, 20, .inl (M.2.2.2.2.2.2.1)))], [(A 5, .inl (cyI, 6, .inl (M.2.2.2.2.2.2.2.1)))], [(A 6, .inl (cyI, 6, .inl (M.2.2.2.2.2.2.2.2.1)))], [(A 7, .inl (cyI, 6, .inl (M.2.2.2.2.2.2.2.2.2.1)))]]) ∧ va_S A9 s9.heap H locs ∧ lv_has ls 4 [(3, .int (nI (a9.1))), (2, .int (nI (rSz (zO M.2.1) n (nI (k))))), (0, .ref (A 0)), (1, .int (nI (k)))]) (μ := fun a9 => n - a9.1) (st := fun a9 => []) ?_ (0, upd M.2.1 (81 + k) 0) _ _ _ ⟨(show 0 ≤ n from by omega), (show (upd M.2.1 (81 + k) 0) 0 = nI n from by rw [pk_un (by omega)]; exact hz), (show (upd M.2.1 (81 + k) 0) = itr 0 (dlStep (nI k)) (upd M.2.1 (81 + k) 0) from rfl), hP, hD, hS, lv_sub hl [0, 1, 2, 3] rfl⟩
  intro a9 ih_18 H locs ls hI
  obtain ⟨i, z1⟩ := a9
  obtain ⟨hi9, hz19, he9, hP9, hD9, hS9, hl9⟩ := hI
  have hi : i ≤ n := hi9
  have hz1 : z1 0 = nI n := hz19
  have he : z1 = itr i (dlStep (nI k)) (upd M.2.1 (81 + k) 0) := he9
  have hP : va_P G vwCl (cat [[(A 0, .inr (6, [.int (M.1), .ref (A 1), .ref (A 2), .int (nI (M.2.2.2.1)), .ref (A 3), .int (nI (M.2.2.2.2.2.1)), .ref (A 4), .ref (A 5), .ref (A 6), .ref (A 7), .int (M.2.2.2.2.2.2.2.2.2.2.1), .int (M.2.2.2.2.2.2.2.2.2.2.2)]))], [(A 1, .inl (cyI, 91, .inl (z1)))], [(A 2, .inl (cyI, 546, .inl (M.2.2.1)))], [(A 3, .inl (cyI, 60, .inl (M.2.2.2.2.1)))], [(A 4, .inl (cyI, 20, .inl (M.2.2.2.2.2.2.1)))], [(A 5, .inl (cyI, 6, .inl (M.2.2.2.2.2.2.2.1)))], [(A 6, .inl (cyI, 6, .inl (M.2.2.2.2.2.2.2.2.1)))], [(A 7, .inl (cyI, 6, .inl (M.2.2.2.2.2.2.2.2.2.1)))]]) H := hP9
  have hD : va_D A9 (cat [[(A 0, .inr (6, [.int (M.1), .ref (A 1), .ref (A 2), .int (nI (M.2.2.2.1)), .ref (A 3), .int (nI (M.2.2.2.2.2.1)), .ref (A 4), .ref (A 5), .ref (A 6), .ref (A 7), .int (M.2.2.2.2.2.2.2.2.2.2.1), .int (M.2.2.2.2.2.2.2.2.2.2.2)]))], [(A 1, .inl (cyI, 91, .inl (z1)))], [(A 2, .inl (cyI, 546, .inl (M.2.2.1)))], [(A 3, .inl (cyI, 60, .inl (M.2.2.2.2.1)))], [(A 4, .inl (cyI, 20, .inl (M.2.2.2.2.2.2.1)))], [(A 5, .inl (cyI, 6, .inl (M.2.2.2.2.2.2.2.1)))], [(A 6, .inl (cyI, 6, .inl (M.2.2.2.2.2.2.2.2.1)))], [(A 7, .inl (cyI, 6, .inl (M.2.2.2.2.2.2.2.2.2.1)))]]) := hD9
  have hS := hS9
  have hl : lv_has ls 4 [(3, .int (nI (i))), (2, .int (nI (rSz (zO M.2.1) n (nI (k))))), (0, .ref (A 0)), (1, .int (nI (k)))] := hl9
  clear hi9 hz19 he9 hP9 hD9 hS9 hl9
  refine lv_iload_n hx hb dX6_doLeave_18 rfl (lv_at hl 0 rfl) ?_
  refine lv_aload_n hx hb dX6_doLeave_19 rfl (lv_at hl 2 rfl) ?_
  refine va_get (v := .ref (A 1)) (C := RX6) (T := TX6) (N := 12) hx hb hts hinX6 hown hK hP 0 rfl rfl 1 (by decide) hf7 (fun _ h9 => h9) rfl dX6_doLeave_20 ?_
  refine lv_iconst (v := (0 : Int32)) hx hb dX6_doLeave_23 (by decide) ?_
  refine r_ild (k := 0) (n := 91) (f := z1) hx hb hK hP 1 0 rfl rfl (by omega) (by omega) rfl dX6_doLeave_24 ?_
  refine top_i (x' := nI (n)) (hz1) ?_
  refine lv_icmp_ge (tgt := 69) hx hb dX6_doLeave_25 (by decide) (fun c_25 => ?_) (fun c_25 => ?_)
  · have c_25 : (n) ≤ (i) := (nI_leI (a := n) (b := i) (by omega) (by omega)).mp c_25
    obtain rfl : n = i := by omega
    have e1 : z1 = dlAll n (nI k) (upd M.2.1 (81 + k) 0) := he
    subst e1
    refine lv_iload_n hx hb dX6_doLeave_69 rfl (lv_at hl 1 rfl) ?_
    have hP : va_P G vwCl (cat [mdW cyI A ((M.1, dlAll n (nI k) (upd M.2.1 (81 + k) 0), M.2.2.1, M.2.2.2.1, M.2.2.2.2.1, M.2.2.2.2.2.1, M.2.2.2.2.2.2.1, M.2.2.2.2.2.2.2.1, M.2.2.2.2.2.2.2.2.1, M.2.2.2.2.2.2.2.2.2.1, M.2.2.2.2.2.2.2.2.2.2.1, M.2.2.2.2.2.2.2.2.2.2.2))]) H := hP
    have hD : va_D A9 (cat [mdW cyI A ((M.1, dlAll n (nI k) (upd M.2.1 (81 + k) 0), M.2.2.1, M.2.2.2.1, M.2.2.2.2.1, M.2.2.2.2.2.1, M.2.2.2.2.2.2.1, M.2.2.2.2.2.2.2.1, M.2.2.2.2.2.2.2.2.1, M.2.2.2.2.2.2.2.2.2.1, M.2.2.2.2.2.2.2.2.2.2.1, M.2.2.2.2.2.2.2.2.2.2.2))]) := hD
    exact end_i hx hb hr hlocks hK hP hD hS (rfl) dX6_doLeave_70
  · have c_25 : ¬ (n) ≤ (i) := fun h9 => c_25 ((nI_leI (a := n) (b := i) (by omega) (by omega)).mpr h9)
    refine lv_aload_n hx hb dX6_doLeave_28 rfl (lv_at hl 2 rfl) ?_
    refine va_get (v := .ref (A 1)) (C := RX6) (T := TX6) (N := 12) hx hb hts hinX6 hown hK hP 0 rfl rfl 1 (by decide) hf7 (fun _ h9 => h9) rfl dX6_doLeave_29 ?_
    refine lv_bipush (v := (21 : Int32)) hx hb dX6_doLeave_32 (by decide) ?_
    refine lv_iload_n hx hb dX6_doLeave_34 rfl (lv_at hl 0 rfl) ?_
    refine lv_iadd hx hb dX6_doLeave_35 ?_
    refine top_i (x' := nI (21 + i)) (nI_add (21) (i)) ?_
    refine lv_aload_n hx hb dX6_doLeave_36 rfl (lv_at hl 2 rfl) ?_
    refine va_get (v := .ref (A 1)) (C := RX6) (T := TX6) (N := 12) hx hb hts hinX6 hown hK hP 0 rfl rfl 1 (by decide) hf7 (fun _ h9 => h9) rfl dX6_doLeave_37 ?_
    refine lv_bipush (v := (21 : Int32)) hx hb dX6_doLeave_40 (by decide) ?_
    refine lv_iload_n hx hb dX6_doLeave_42 rfl (lv_at hl 0 rfl) ?_
    refine lv_iadd hx hb dX6_doLeave_43 ?_
    refine top_i (x' := nI (21 + i)) (nI_add (21) (i)) ?_
    refine r_ild (k := 21 + i) (n := 91) (f := z1) hx hb hK hP 1 0 rfl rfl (by omega) (by omega) rfl dX6_doLeave_44 ?_
    refine lv_iload_n hx hb dX6_doLeave_45 rfl (lv_at hl 3 rfl) ?_
    refine lv_icmp_ne (tgt := 53) hx hb dX6_doLeave_46 (by decide) (fun c_46 => ?_) (fun c_46 => ?_)
    · refine lv_aload_n hx hb dX6_doLeave_53 rfl (lv_at hl 2 rfl) ?_
      refine va_get (v := .ref (A 1)) (C := RX6) (T := TX6) (N := 12) hx hb hts hinX6 hown hK hP 0 rfl rfl 1 (by decide) hf7 (fun _ h9 => h9) rfl dX6_doLeave_54 ?_
      refine lv_bipush (v := (21 : Int32)) hx hb dX6_doLeave_57 (by decide) ?_
      refine lv_iload_n hx hb dX6_doLeave_59 rfl (lv_at hl 0 rfl) ?_
      refine lv_iadd hx hb dX6_doLeave_60 ?_
      refine top_i (x' := nI (21 + i)) (nI_add (21) (i)) ?_
      refine r_ild (k := 21 + i) (n := 91) (f := z1) hx hb hK hP 1 0 rfl rfl (by omega) (by omega) rfl dX6_doLeave_61 ?_
      refine r_ist (k := 21 + i) (n := 91) (f := z1) hx hb hK hP hD hS 1 0 rfl rfl (by omega) (by omega) rfl dX6_doLeave_62 (fun H locs hP hD hS => ?_)
      have hP : va_P G vwCl (cat [[(A 0, .inr (6, [.int (M.1), .ref (A 1), .ref (A 2), .int (nI (M.2.2.2.1)), .ref (A 3), .int (nI (M.2.2.2.2.2.1)), .ref (A 4), .ref (A 5), .ref (A 6), .ref (A 7), .int (M.2.2.2.2.2.2.2.2.2.2.1), .int (M.2.2.2.2.2.2.2.2.2.2.2)]))], [(A 1, .inl (cyI, 91, .inl (upd z1 (21 + i) (z1 (21 + i)))))], [(A 2, .inl (cyI, 546, .inl (M.2.2.1)))], [(A 3, .inl (cyI, 60, .inl (M.2.2.2.2.1)))], [(A 4, .inl (cyI, 20, .inl (M.2.2.2.2.2.2.1)))], [(A 5, .inl (cyI, 6, .inl (M.2.2.2.2.2.2.2.1)))], [(A 6, .inl (cyI, 6, .inl (M.2.2.2.2.2.2.2.2.1)))], [(A 7, .inl (cyI, 6, .inl (M.2.2.2.2.2.2.2.2.2.1)))]]) H := hP
      have hD : va_D A9 (cat [[(A 0, .inr (6, [.int (M.1), .ref (A 1), .ref (A 2), .int (nI (M.2.2.2.1)), .ref (A 3), .int (nI (M.2.2.2.2.2.1)), .ref (A 4), .ref (A 5), .ref (A 6), .ref (A 7), .int (M.2.2.2.2.2.2.2.2.2.2.1), .int (M.2.2.2.2.2.2.2.2.2.2.2)]))], [(A 1, .inl (cyI, 91, .inl (upd z1 (21 + i) (z1 (21 + i)))))], [(A 2, .inl (cyI, 546, .inl (M.2.2.1)))], [(A 3, .inl (cyI, 60, .inl (M.2.2.2.2.1)))], [(A 4, .inl (cyI, 20, .inl (M.2.2.2.2.2.2.1)))], [(A 5, .inl (cyI, 6, .inl (M.2.2.2.2.2.2.2.1)))], [(A 6, .inl (cyI, 6, .inl (M.2.2.2.2.2.2.2.2.1)))], [(A 7, .inl (cyI, 6, .inl (M.2.2.2.2.2.2.2.2.2.1)))]]) := hD
      refine lv_iinc (v := nI (i + 1)) (lv' := [(3, .int (nI (i + 1))), (2, .int (nI (rSz (zO M.2.1) n (nI (k))))), (0, .ref (A 0)), (1, .int (nI (k)))]) hx hb dX6_doLeave_63 hl (k := 0) rfl (nI_add _ _) (by decide) rfl (fun ls hl => ?_)
      refine lv_goto (tgt := 18) hx hb dX6_doLeave_66 (by decide) ?_
      exact ih_18 (i + 1, upd z1 (21 + i) (z1 (21 + i))) (by show (n - (i + 1)) < (n - i); omega) _ _ _ ⟨(show (i + 1) ≤ n from by omega), (show (upd z1 (21 + i) (z1 (21 + i))) 0 = nI n from by rw [pk_un (by omega)]; exact hz1), (show (upd z1 (21 + i) (z1 (21 + i))) = itr (i + 1) (dlStep (nI k)) (upd M.2.1 (81 + k) 0) from by show _ = dlStep _ i (itr i _ _); rw [← he]; simp [dlStep, c_25, c_46]), hP, hD, hS, lv_sub hl [0, 1, 2, 3] rfl⟩
    · refine lv_iconst (v := (-1 : Int32)) hx hb dX6_doLeave_49 (by decide) ?_
      refine lv_goto (tgt := 62) hx hb dX6_doLeave_50 (by decide) ?_
      refine r_ist (k := 21 + i) (n := 91) (f := z1) hx hb hK hP hD hS 1 0 rfl rfl (by omega) (by omega) rfl dX6_doLeave_62 (fun H locs hP hD hS => ?_)
      have hP : va_P G vwCl (cat [[(A 0, .inr (6, [.int (M.1), .ref (A 1), .ref (A 2), .int (nI (M.2.2.2.1)), .ref (A 3), .int (nI (M.2.2.2.2.2.1)), .ref (A 4), .ref (A 5), .ref (A 6), .ref (A 7), .int (M.2.2.2.2.2.2.2.2.2.2.1), .int (M.2.2.2.2.2.2.2.2.2.2.2)]))], [(A 1, .inl (cyI, 91, .inl (upd z1 (21 + i) ((-1 : Int32)))))], [(A 2, .inl (cyI, 546, .inl (M.2.2.1)))], [(A 3, .inl (cyI, 60, .inl (M.2.2.2.2.1)))], [(A 4, .inl (cyI, 20, .inl (M.2.2.2.2.2.2.1)))], [(A 5, .inl (cyI, 6, .inl (M.2.2.2.2.2.2.2.1)))], [(A 6, .inl (cyI, 6, .inl (M.2.2.2.2.2.2.2.2.1)))], [(A 7, .inl (cyI, 6, .inl (M.2.2.2.2.2.2.2.2.2.1)))]]) H := hP
      have hD : va_D A9 (cat [[(A 0, .inr (6, [.int (M.1), .ref (A 1), .ref (A 2), .int (nI (M.2.2.2.1)), .ref (A 3), .int (nI (M.2.2.2.2.2.1)), .ref (A 4), .ref (A 5), .ref (A 6), .ref (A 7), .int (M.2.2.2.2.2.2.2.2.2.2.1), .int (M.2.2.2.2.2.2.2.2.2.2.2)]))], [(A 1, .inl (cyI, 91, .inl (upd z1 (21 + i) ((-1 : Int32)))))], [(A 2, .inl (cyI, 546, .inl (M.2.2.1)))], [(A 3, .inl (cyI, 60, .inl (M.2.2.2.2.1)))], [(A 4, .inl (cyI, 20, .inl (M.2.2.2.2.2.2.1)))], [(A 5, .inl (cyI, 6, .inl (M.2.2.2.2.2.2.2.1)))], [(A 6, .inl (cyI, 6, .inl (M.2.2.2.2.2.2.2.2.1)))], [(A 7, .inl (cyI, 6, .inl (M.2.2.2.2.2.2.2.2.2.1)))]]) := hD
      refine lv_iinc (v := nI (i + 1)) (lv' := [(3, .int (nI (i + 1))), (2, .int (nI (rSz (zO M.2.1) n (nI (k))))), (0, .ref (A 0)), (1, .int (nI (k)))]) hx hb dX6_doLeave_63 hl (k := 0) rfl (nI_add _ _) (by decide) rfl (fun ls hl => ?_)
      refine lv_goto (tgt := 18) hx hb dX6_doLeave_66 (by decide) ?_
      exact ih_18 (i + 1, upd z1 (21 + i) ((-1 : Int32))) (by show (n - (i + 1)) < (n - i); omega) _ _ _ ⟨(show (i + 1) ≤ n from by omega), (show (upd z1 (21 + i) ((-1 : Int32))) 0 = nI n from by rw [pk_un (by omega)]; exact hz1), (show (upd z1 (21 + i) ((-1 : Int32))) = itr (i + 1) (dlStep (nI k)) (upd M.2.1 (81 + k) 0) from by show _ = dlStep _ i (itr i _ _); rw [← he]; simp [dlStep, c_25, c_46]), hP, hD, hS, lv_sub hl [0, 1, 2, 3] rfl⟩
abbrev rm_X6_noPlan : Room := { frames := 1, cells := 0, slots := 0, locals := 22 }
set_option maxHeartbeats 4000000 in
set_option maxRecDepth 100000 in
theorem c_X6_noPlan (l : Launch) (G : va_G) (cyI cyO : ClassId) (A : Nat → Nat) (M : MS) (n : Nat) (hM : MI M.2.1 n) : CI l G (TY cyI cyO) yX6_noPlan wsX6_noPlan rm_X6_noPlan [.ref (A 0)] [mdW cyI A M] (mNoPlan M.2.1) [mdW cyI A M] := by
  refine wk_I (cc := cX6_noPlan) (maxL := 1) (ret := (some .int)) (by decide) rfl (Nat.le_of_ble_eq_true rfl) ?_
  intro p9 e9 s9 m9 b9 t9 c9 A9 ls hx hb hr hts hown hlocks hml hK hA hD hP hl hS hnm
  have hl : lv_has ls 1 [(0, .ref (A 0))] := hl
  have hinX6 : ∀ w ∈ wsX60, w ∈ wsX6_noPlan := by decide +kernel
  have hf7 := hts (.fieldLink RX6 7 "DoorstepRoundsModel" "z" "[I") (by decide +kernel)
  have hz : M.2.1 0 = nI n := hM.1
  have hn : n ≤ 20 := hM.2.1
  have hWk := hM.2.2.1
  have hOw := hM.2.2.2
  have hw6 := cW_le (zW M.2.1)
  refine lv_aload_n hx hb dX6_noPlan_0 rfl (lv_at hl 0 rfl) ?_
  refine va_get (v := .ref (A 1)) (C := RX6) (T := TX6) (N := 12) hx hb hts hinX6 hown hK hP 0 rfl rfl 1 (by decide) hf7 (fun _ h9 => h9) rfl dX6_noPlan_1 ?_
  refine lv_bipush (v := (87 : Int32)) hx hb dX6_noPlan_4 (by decide) ?_
  refine r_ild (k := 87) (n := 91) (f := M.2.1) hx hb hK hP 1 0 rfl rfl (by omega) (by omega) rfl dX6_noPlan_6 ?_
  refine lv_if_gt (tgt := 17) hx hb dX6_noPlan_7 (by decide) (fun c_7 => ?_) (fun c_7 => ?_)
  · refine lv_iconst (v := (1 : Int32)) hx hb dX6_noPlan_17 (by decide) ?_
    refine lv_goto (tgt := 22) hx hb dX6_noPlan_18 (by decide) ?_
    have hP : va_P G vwCl (cat [mdW cyI A M]) s9.heap := hP
    have hD : va_D A9 (cat [mdW cyI A M]) := hD
    exact end_i hx hb hr hlocks hK hP hD hS (by simp [mNoPlan, c_7]) dX6_noPlan_22
  · refine lv_aload_n hx hb dX6_noPlan_10 rfl (lv_at hl 0 rfl) ?_
    refine gVi (gs := [mdW cyI A M]) (As := []) (rest := []) ⟨hx, hb, hml, hown, hts⟩ (c_X6_men l G cyI cyO A M n hM) (cwV 0 hts gX6_noPlan_X6_men rfl rfl rfl (by decide +kernel) ⟨Nat.le_of_ble_eq_true rfl, Nat.le_of_ble_eq_true rfl⟩) hK hP hD hS hA [0] rfl rfl rfl 0 6 rfl rfl rfl hl.1 rfl (Nat.le_of_ble_eq_true rfl) dX6_noPlan_11 ⟨Nat.le_refl _, Nat.le_refl _⟩ (fun H locs hP hD hS => ?_)
    have hP : va_P G vwCl (cat [mdW cyI A M]) H := hP
    have hD : va_D A9 (cat [mdW cyI A M]) := hD
    refine lv_if_ne (tgt := 21) hx hb dX6_noPlan_14 (by decide) (fun c_14 => ?_) (fun c_14 => ?_)
    · have c_14 : ¬ (cW (zW M.2.1)) = (0) := fun h9 => c_14 ((nI_eq (a := cW (zW M.2.1)) (b := 0) (by omega) (by omega)).mpr h9)
      refine lv_iconst (v := (0 : Int32)) hx hb dX6_noPlan_21 (by decide) ?_
      have hP : va_P G vwCl (cat [mdW cyI A M]) H := hP
      have hD : va_D A9 (cat [mdW cyI A M]) := hD
      exact end_i hx hb hr hlocks hK hP hD hS (by simp [mNoPlan, c_7, c_14]) dX6_noPlan_22
    · have c_14 : (cW (zW M.2.1)) = (0) := (nI_eq (a := cW (zW M.2.1)) (b := 0) (by omega) (by omega)).mp c_14
      refine lv_iconst (v := (1 : Int32)) hx hb dX6_noPlan_17 (by decide) ?_
      refine lv_goto (tgt := 22) hx hb dX6_noPlan_18 (by decide) ?_
      have hP : va_P G vwCl (cat [mdW cyI A M]) H := hP
      have hD : va_D A9 (cat [mdW cyI A M]) := hD
      exact end_i hx hb hr hlocks hK hP hD hS (by simp [mNoPlan, c_7, c_14]) dX6_noPlan_22
abbrev rm_X6_noHandover : Room := { frames := 0, cells := 0, slots := 0, locals := 0 }
set_option maxHeartbeats 4000000 in
set_option maxRecDepth 100000 in
theorem c_X6_noHandover (l : Launch) (G : va_G) (cyI cyO : ClassId) (A : Nat → Nat) (M : MS) (n : Nat) (hM : MI M.2.1 n) : CI l G (TY cyI cyO) yX6_noHandover wsX6_noHandover rm_X6_noHandover [.ref (A 0)] [mdW cyI A M] (mNoHand M.2.1) [mdW cyI A M] := by
  refine wk_I (cc := cX6_noHandover) (maxL := 1) (ret := (some .int)) (by decide) rfl (Nat.le_of_ble_eq_true rfl) ?_
  intro p9 e9 s9 m9 b9 t9 c9 A9 ls hx hb hr hts hown hlocks hml hK hA hD hP hl hS hnm
  have hl : lv_has ls 1 [(0, .ref (A 0))] := hl
  have hinX6 : ∀ w ∈ wsX60, w ∈ wsX6_noHandover := by decide +kernel
  have hf7 := hts (.fieldLink RX6 7 "DoorstepRoundsModel" "z" "[I") (by decide +kernel)
  have hz : M.2.1 0 = nI n := hM.1
  have hn : n ≤ 20 := hM.2.1
  have hWk := hM.2.2.1
  have hOw := hM.2.2.2
  refine lv_aload_n hx hb dX6_noHandover_0 rfl (lv_at hl 0 rfl) ?_
  refine va_get (v := .ref (A 1)) (C := RX6) (T := TX6) (N := 12) hx hb hts hinX6 hown hK hP 0 rfl rfl 1 (by decide) hf7 (fun _ h9 => h9) rfl dX6_noHandover_1 ?_
  refine lv_bipush (v := (87 : Int32)) hx hb dX6_noHandover_4 (by decide) ?_
  refine r_ild (k := 87) (n := 91) (f := M.2.1) hx hb hK hP 1 0 rfl rfl (by omega) (by omega) rfl dX6_noHandover_6 ?_
  refine lv_if_ne (tgt := 14) hx hb dX6_noHandover_7 (by decide) (fun c_7 => ?_) (fun c_7 => ?_)
  · refine lv_iconst (v := (0 : Int32)) hx hb dX6_noHandover_14 (by decide) ?_
    have hP : va_P G vwCl (cat [mdW cyI A M]) s9.heap := hP
    have hD : va_D A9 (cat [mdW cyI A M]) := hD
    exact end_i hx hb hr hlocks hK hP hD hS (by simp [mNoHand, c_7]) dX6_noHandover_15
  · refine lv_iconst (v := (1 : Int32)) hx hb dX6_noHandover_10 (by decide) ?_
    refine lv_goto (tgt := 15) hx hb dX6_noHandover_11 (by decide) ?_
    have hP : va_P G vwCl (cat [mdW cyI A M]) s9.heap := hP
    have hD : va_D A9 (cat [mdW cyI A M]) := hD
    exact end_i hx hb hr hlocks hK hP hD hS (by simp [mNoHand, c_7]) dX6_noHandover_15
abbrev rm_X6_doPlan : Room := { frames := 4, cells := 0, slots := 0, locals := 92 }
set_option maxHeartbeats 4000000 in
set_option maxRecDepth 100000 in
theorem c_X6_doPlan (l : Launch) (G : va_G) (cyI cyO : ClassId) (A : Nat → Nat) (M : MS) (n : Nat) (hM : MI M.2.1 n) : CI l G (TY cyI cyO) yX6_doPlan wsX6_doPlan rm_X6_doPlan [.ref (A 0)] [mdW cyI A M] (mShR M n) [mdW cyI A (mDoPlan M n)] := by
  refine wk_I (cc := cX6_doPlan) (maxL := 3) (ret := (some .int)) (by decide) rfl (Nat.le_of_ble_eq_true rfl) ?_
  intro p9 e9 s9 m9 b9 t9 c9 A9 ls hx hb hr hts hown hlocks hml hK hA hD hP hl hS hnm
  have hl : lv_has ls 3 [(0, .ref (A 0))] := hl
  have hinX6 : ∀ w ∈ wsX60, w ∈ wsX6_doPlan := by decide +kernel
  have hf19 := hts (.fieldLink RX6 19 "DoorstepRoundsModel" "goal" "[I") (by decide +kernel)
  have hf7 := hts (.fieldLink RX6 7 "DoorstepRoundsModel" "z" "[I") (by decide +kernel)
  have hz : M.2.1 0 = nI n := hM.1
  have hn : n ≤ 20 := hM.2.1
  have hWk := hM.2.2.1
  have hOw := hM.2.2.2
  have hzs : ((mSh M n)).2.1 = M.2.1 := mSh_z M n
  refine lv_aload_n hx hb dX6_doPlan_0 rfl (lv_at hl 0 rfl) ?_
  refine gVi (gs := [mdW cyI A M]) (As := []) (rest := []) ⟨hx, hb, hml, hown, hts⟩ (c_X6_share l G cyI cyO A M n hM) (cwV 0 hts gX6_doPlan_X6_share rfl rfl rfl (by decide +kernel) ⟨Nat.le_of_ble_eq_true rfl, Nat.le_of_ble_eq_true rfl⟩) hK hP hD hS hA [0] rfl rfl rfl 0 6 rfl rfl rfl hl.1 rfl (Nat.le_of_ble_eq_true rfl) dX6_doPlan_1 ⟨Nat.le_refl _, Nat.le_refl _⟩ (fun H locs hP hD hS => ?_)
  have hP : va_P G vwCl (cat [mdW cyI A (mSh M n)]) H := hP
  have hD : va_D A9 (cat [mdW cyI A (mSh M n)]) := hD
  refine lv_istore_n (lv' := [(1, .int (mShR M n)), (0, .ref (A 0))]) hx hb dX6_doPlan_4 rfl hl (by decide) rfl (fun ls hl => ?_)
  refine lv_iconst (v := (0 : Int32)) hx hb dX6_doPlan_5 (by decide) ?_
  refine lv_istore_n (lv' := [(2, .int ((0 : Int32))), (1, .int (mShR M n)), (0, .ref (A 0))]) hx hb dX6_doPlan_6 rfl hl (by decide) rfl (fun ls hl => ?_)
  have hP : va_P G vwCl (cat [[(A 0, .inr (6, [.int ((mSh M n).1), .ref (A 1), .ref (A 2), .int (nI ((mSh M n).2.2.2.1)), .ref (A 3), .int (nI ((mSh M n).2.2.2.2.2.1)), .ref (A 4), .ref (A 5), .ref (A 6), .ref (A 7), .int ((mSh M n).2.2.2.2.2.2.2.2.2.2.1), .int ((mSh M n).2.2.2.2.2.2.2.2.2.2.2)]))], [(A 1, .inl (cyI, 91, .inl ((mSh M n).2.1)))], [(A 2, .inl (cyI, 546, .inl ((mSh M n).2.2.1)))], [(A 3, .inl (cyI, 60, .inl ((mSh M n).2.2.2.2.1)))], [(A 4, .inl (cyI, 20, .inl ((mSh M n).2.2.2.2.2.2.1)))], [(A 5, .inl (cyI, 6, .inl ((mSh M n).2.2.2.2.2.2.2.1)))], [(A 6, .inl (cyI, 6, .inl ((mSh M n).2.2.2.2.2.2.2.2.1)))], [(A 7, .inl (cyI, 6, .inl ((mSh M n).2.2.2.2.2.2.2.2.2.1)))]]) H := hP
  have hD : va_D A9 (cat [[(A 0, .inr (6, [.int ((mSh M n).1), .ref (A 1), .ref (A 2), .int (nI ((mSh M n).2.2.2.1)), .ref (A 3), .int (nI ((mSh M n).2.2.2.2.2.1)), .ref (A 4), .ref (A 5), .ref (A 6), .ref (A 7), .int ((mSh M n).2.2.2.2.2.2.2.2.2.2.1), .int ((mSh M n).2.2.2.2.2.2.2.2.2.2.2)]))], [(A 1, .inl (cyI, 91, .inl ((mSh M n).2.1)))], [(A 2, .inl (cyI, 546, .inl ((mSh M n).2.2.1)))], [(A 3, .inl (cyI, 60, .inl ((mSh M n).2.2.2.2.1)))], [(A 4, .inl (cyI, 20, .inl ((mSh M n).2.2.2.2.2.2.1)))], [(A 5, .inl (cyI, 6, .inl ((mSh M n).2.2.2.2.2.2.2.1)))], [(A 6, .inl (cyI, 6, .inl ((mSh M n).2.2.2.2.2.2.2.2.1)))], [(A 7, .inl (cyI, 6, .inl ((mSh M n).2.2.2.2.2.2.2.2.2.1)))]]) := hD
  refine W_loop (α := Nat × (Nat → Int32)) (I := fun a9 H locs ls => (a9.1 ≤ n) ∧ (a9.2 0 = nI n) ∧ (mShR M n ≤ 0 → a9.1 = 0) ∧ (a9.2 = itr a9.1 (dpStep ((mSh M n)).2.2.2.2.2.2.1) (M.2.1)) ∧ va_P G vwCl (cat [[(A 0, .inr (6, [.int ((mSh M n).1), .ref (A 1), .ref (A 2), .int (nI ((mSh M n).2.2.2.1)), .ref (A 3), .int (nI ((mSh M n).2.2.2.2.2.1)), .ref (A 4), .ref (A 5), .ref (A 6), .ref (A 7), .int ((mSh M n).2.2.2.2.2.2.2.2.2.2.1), .int ((mSh M n).2.2.2.2.2.2.2.2.2.2.2)]))], [(A 1, .inl (cyI, 91, .inl (a9.2)))], [(A 2, .inl (cyI, 546, .inl ((mSh M n).2.2.1)))], [(A 3, .inl (cyI, 60, .inl ((mSh M n).2.2.2.2.1)))], [(A 4, .inl (cyI, 20, .inl ((mSh M n).2.2.2.2.2.2.1)))], [(A 5, .inl (cyI, 6, .inl ((mSh M n).2.2.2.2.2.2.2.1)))], [(A 6, .inl (cyI, 6, .inl ((mSh M n).2.2.2.2.2.2.2.2.1)))], [(A 7, .inl (cyI, 6, .inl ((mSh M n).2.2.2.2.2.2.2.2.2.1)))]]) H ∧ va_D A9 (cat [[(A 0, .inr (6, [.int ((mSh M n).1), .ref (A 1), .ref (A 2), .int (nI ((mSh M n).2.2.2.1)), .ref (A 3), .int (nI ((mSh M n).2.2.2.2.2.1)), .ref (A 4), .ref (A 5), .ref (A 6), .ref (A 7), .int ((mSh M n).2.2.2.2.2.2.2.2.2.2.1), .int ((mSh M n).2.2.2.2.2.2.2.2.2.2.2)]))], [(A 1, .inl (cyI, 91, .inl (a9.2)))], [(A 2, .inl (cyI, 546, .inl ((mSh M n).2.2.1)))], [(A 3, .inl (cyI, 60, .inl ((mSh M n).2.2.2.2.1)))], [(A 4, .inl (cyI, 20, .inl ((mSh M n).2.2.2.2.2.2.1)))], [(A 5, .inl (cyI, 6, .inl ((mSh M n).2.2.2.2.2.2.2.1)))], [(A 6, .inl (cyI, 6, .inl ((mSh M n).2.2.2.2.2.2.2.2.1)))], [(A 7, .inl (cyI, 6, .inl ((mSh M n).2.2.2.2.2.2.2.2.2.1)))]]) ∧ va_S A9 s9.heap H locs ∧ lv_has ls 3 [(2, .int (nI (a9.1))), (1, .int (mShR M n)), (0, .ref (A 0))]) (μ := fun a9 => n - a9.1) (st := fun a9 => []) ?_ (0, ((mSh M n)).2.1) _ _ _ ⟨(show 0 ≤ n from by omega), (show (((mSh M n)).2.1) 0 = nI n from by rw [hzs]; exact hz), (show mShR M n ≤ 0 → 0 = 0 from fun _ => rfl), (show (((mSh M n)).2.1) = itr 0 (dpStep ((mSh M n)).2.2.2.2.2.2.1) (M.2.1) from hzs), hP, hD, hS, lv_sub hl [0, 1, 2] rfl⟩
  intro a9 ih_7 H locs ls hI
  obtain ⟨i, z1⟩ := a9
  obtain ⟨hi9, hz19, hr09, he9, hP9, hD9, hS9, hl9⟩ := hI
  have hi : i ≤ n := hi9
  have hz1 : z1 0 = nI n := hz19
  have hr0 : mShR M n ≤ 0 → i = 0 := hr09
  have he : z1 = itr i (dpStep ((mSh M n)).2.2.2.2.2.2.1) (M.2.1) := he9
  have hP : va_P G vwCl (cat [[(A 0, .inr (6, [.int ((mSh M n).1), .ref (A 1), .ref (A 2), .int (nI ((mSh M n).2.2.2.1)), .ref (A 3), .int (nI ((mSh M n).2.2.2.2.2.1)), .ref (A 4), .ref (A 5), .ref (A 6), .ref (A 7), .int ((mSh M n).2.2.2.2.2.2.2.2.2.2.1), .int ((mSh M n).2.2.2.2.2.2.2.2.2.2.2)]))], [(A 1, .inl (cyI, 91, .inl (z1)))], [(A 2, .inl (cyI, 546, .inl ((mSh M n).2.2.1)))], [(A 3, .inl (cyI, 60, .inl ((mSh M n).2.2.2.2.1)))], [(A 4, .inl (cyI, 20, .inl ((mSh M n).2.2.2.2.2.2.1)))], [(A 5, .inl (cyI, 6, .inl ((mSh M n).2.2.2.2.2.2.2.1)))], [(A 6, .inl (cyI, 6, .inl ((mSh M n).2.2.2.2.2.2.2.2.1)))], [(A 7, .inl (cyI, 6, .inl ((mSh M n).2.2.2.2.2.2.2.2.2.1)))]]) H := hP9
  have hD : va_D A9 (cat [[(A 0, .inr (6, [.int ((mSh M n).1), .ref (A 1), .ref (A 2), .int (nI ((mSh M n).2.2.2.1)), .ref (A 3), .int (nI ((mSh M n).2.2.2.2.2.1)), .ref (A 4), .ref (A 5), .ref (A 6), .ref (A 7), .int ((mSh M n).2.2.2.2.2.2.2.2.2.2.1), .int ((mSh M n).2.2.2.2.2.2.2.2.2.2.2)]))], [(A 1, .inl (cyI, 91, .inl (z1)))], [(A 2, .inl (cyI, 546, .inl ((mSh M n).2.2.1)))], [(A 3, .inl (cyI, 60, .inl ((mSh M n).2.2.2.2.1)))], [(A 4, .inl (cyI, 20, .inl ((mSh M n).2.2.2.2.2.2.1)))], [(A 5, .inl (cyI, 6, .inl ((mSh M n).2.2.2.2.2.2.2.1)))], [(A 6, .inl (cyI, 6, .inl ((mSh M n).2.2.2.2.2.2.2.2.1)))], [(A 7, .inl (cyI, 6, .inl ((mSh M n).2.2.2.2.2.2.2.2.2.1)))]]) := hD9
  have hS := hS9
  have hl : lv_has ls 3 [(2, .int (nI (i))), (1, .int (mShR M n)), (0, .ref (A 0))] := hl9
  clear hi9 hz19 hr09 he9 hP9 hD9 hS9 hl9
  refine lv_iload_n hx hb dX6_doPlan_7 rfl (lv_at hl 0 rfl) ?_
  refine lv_aload_n hx hb dX6_doPlan_8 rfl (lv_at hl 2 rfl) ?_
  refine va_get (v := .ref (A 1)) (C := RX6) (T := TX6) (N := 12) hx hb hts hinX6 hown hK hP 0 rfl rfl 1 (by decide) hf7 (fun _ h9 => h9) rfl dX6_doPlan_9 ?_
  refine lv_iconst (v := (0 : Int32)) hx hb dX6_doPlan_12 (by decide) ?_
  refine r_ild (k := 0) (n := 91) (f := z1) hx hb hK hP 1 0 rfl rfl (by omega) (by omega) rfl dX6_doPlan_13 ?_
  refine top_i (x' := nI (n)) (hz1) ?_
  refine lv_icmp_ge (tgt := 60) hx hb dX6_doPlan_14 (by decide) (fun c_14 => ?_) (fun c_14 => ?_)
  · have c_14 : (n) ≤ (i) := (nI_leI (a := n) (b := i) (by omega) (by omega)).mp c_14
    obtain rfl : n = i := by omega
    have hz2 : z1 = if mShR M n ≤ 0 then M.2.1 else itr n (dpStep ((mSh M n)).2.2.2.2.2.2.1) (M.2.1) := (if h9 : mShR M n ≤ 0 then by rw [if_pos h9, he, hr0 h9]; rfl else by rw [if_neg h9]; exact he)
    refine lv_aload_n hx hb dX6_doPlan_60 rfl (lv_at hl 2 rfl) ?_
    refine va_get (v := .ref (A 1)) (C := RX6) (T := TX6) (N := 12) hx hb hts hinX6 hown hK hP 0 rfl rfl 1 (by decide) hf7 (fun _ h9 => h9) rfl dX6_doPlan_61 ?_
    refine lv_bipush (v := (87 : Int32)) hx hb dX6_doPlan_64 (by decide) ?_
    refine lv_iload_n hx hb dX6_doPlan_66 rfl (lv_at hl 1 rfl) ?_
    refine lv_if_le (tgt := 74) hx hb dX6_doPlan_67 (by decide) (fun c_67 => ?_) (fun c_67 => ?_)
    · refine lv_iconst (v := (0 : Int32)) hx hb dX6_doPlan_74 (by decide) ?_
      refine r_ist (k := 87) (n := 91) (f := z1) hx hb hK hP hD hS 1 0 rfl rfl (by omega) (by omega) rfl dX6_doPlan_75 (fun H locs hP hD hS => ?_)
      have hP : va_P G vwCl (cat [[(A 0, .inr (6, [.int ((mSh M n).1), .ref (A 1), .ref (A 2), .int (nI ((mSh M n).2.2.2.1)), .ref (A 3), .int (nI ((mSh M n).2.2.2.2.2.1)), .ref (A 4), .ref (A 5), .ref (A 6), .ref (A 7), .int ((mSh M n).2.2.2.2.2.2.2.2.2.2.1), .int ((mSh M n).2.2.2.2.2.2.2.2.2.2.2)]))], [(A 1, .inl (cyI, 91, .inl (upd z1 87 ((0 : Int32)))))], [(A 2, .inl (cyI, 546, .inl ((mSh M n).2.2.1)))], [(A 3, .inl (cyI, 60, .inl ((mSh M n).2.2.2.2.1)))], [(A 4, .inl (cyI, 20, .inl ((mSh M n).2.2.2.2.2.2.1)))], [(A 5, .inl (cyI, 6, .inl ((mSh M n).2.2.2.2.2.2.2.1)))], [(A 6, .inl (cyI, 6, .inl ((mSh M n).2.2.2.2.2.2.2.2.1)))], [(A 7, .inl (cyI, 6, .inl ((mSh M n).2.2.2.2.2.2.2.2.2.1)))]]) H := hP
      have hD : va_D A9 (cat [[(A 0, .inr (6, [.int ((mSh M n).1), .ref (A 1), .ref (A 2), .int (nI ((mSh M n).2.2.2.1)), .ref (A 3), .int (nI ((mSh M n).2.2.2.2.2.1)), .ref (A 4), .ref (A 5), .ref (A 6), .ref (A 7), .int ((mSh M n).2.2.2.2.2.2.2.2.2.2.1), .int ((mSh M n).2.2.2.2.2.2.2.2.2.2.2)]))], [(A 1, .inl (cyI, 91, .inl (upd z1 87 ((0 : Int32)))))], [(A 2, .inl (cyI, 546, .inl ((mSh M n).2.2.1)))], [(A 3, .inl (cyI, 60, .inl ((mSh M n).2.2.2.2.1)))], [(A 4, .inl (cyI, 20, .inl ((mSh M n).2.2.2.2.2.2.1)))], [(A 5, .inl (cyI, 6, .inl ((mSh M n).2.2.2.2.2.2.2.1)))], [(A 6, .inl (cyI, 6, .inl ((mSh M n).2.2.2.2.2.2.2.2.1)))], [(A 7, .inl (cyI, 6, .inl ((mSh M n).2.2.2.2.2.2.2.2.2.1)))]]) := hD
      refine lv_iload_n hx hb dX6_doPlan_76 rfl (lv_at hl 1 rfl) ?_
      have hgo : cat [[(A 0, .inr (6, [.int ((mSh M n).1), .ref (A 1), .ref (A 2), .int (nI ((mSh M n).2.2.2.1)), .ref (A 3), .int (nI ((mSh M n).2.2.2.2.2.1)), .ref (A 4), .ref (A 5), .ref (A 6), .ref (A 7), .int ((mSh M n).2.2.2.2.2.2.2.2.2.2.1), .int ((mSh M n).2.2.2.2.2.2.2.2.2.2.2)]))], [(A 1, .inl (cyI, 91, .inl (upd z1 87 ((0 : Int32)))))], [(A 2, .inl (cyI, 546, .inl ((mSh M n).2.2.1)))], [(A 3, .inl (cyI, 60, .inl ((mSh M n).2.2.2.2.1)))], [(A 4, .inl (cyI, 20, .inl ((mSh M n).2.2.2.2.2.2.1)))], [(A 5, .inl (cyI, 6, .inl ((mSh M n).2.2.2.2.2.2.2.1)))], [(A 6, .inl (cyI, 6, .inl ((mSh M n).2.2.2.2.2.2.2.2.1)))], [(A 7, .inl (cyI, 6, .inl ((mSh M n).2.2.2.2.2.2.2.2.2.1)))]] = cat [mdW cyI A (mDoPlan M n)] := by unfold mDoPlan; rw [← hz2]; (first | rw [if_pos c_67] | rw [if_neg c_67]); rfl
      rw [hgo] at hP hD
      have hP : va_P G vwCl (cat [mdW cyI A (mDoPlan M n)]) H := hP
      have hD : va_D A9 (cat [mdW cyI A (mDoPlan M n)]) := hD
      exact end_i hx hb hr hlocks hK hP hD hS (rfl) dX6_doPlan_77
    · refine lv_iconst (v := (1 : Int32)) hx hb dX6_doPlan_70 (by decide) ?_
      refine lv_goto (tgt := 75) hx hb dX6_doPlan_71 (by decide) ?_
      refine r_ist (k := 87) (n := 91) (f := z1) hx hb hK hP hD hS 1 0 rfl rfl (by omega) (by omega) rfl dX6_doPlan_75 (fun H locs hP hD hS => ?_)
      have hP : va_P G vwCl (cat [[(A 0, .inr (6, [.int ((mSh M n).1), .ref (A 1), .ref (A 2), .int (nI ((mSh M n).2.2.2.1)), .ref (A 3), .int (nI ((mSh M n).2.2.2.2.2.1)), .ref (A 4), .ref (A 5), .ref (A 6), .ref (A 7), .int ((mSh M n).2.2.2.2.2.2.2.2.2.2.1), .int ((mSh M n).2.2.2.2.2.2.2.2.2.2.2)]))], [(A 1, .inl (cyI, 91, .inl (upd z1 87 ((1 : Int32)))))], [(A 2, .inl (cyI, 546, .inl ((mSh M n).2.2.1)))], [(A 3, .inl (cyI, 60, .inl ((mSh M n).2.2.2.2.1)))], [(A 4, .inl (cyI, 20, .inl ((mSh M n).2.2.2.2.2.2.1)))], [(A 5, .inl (cyI, 6, .inl ((mSh M n).2.2.2.2.2.2.2.1)))], [(A 6, .inl (cyI, 6, .inl ((mSh M n).2.2.2.2.2.2.2.2.1)))], [(A 7, .inl (cyI, 6, .inl ((mSh M n).2.2.2.2.2.2.2.2.2.1)))]]) H := hP
      have hD : va_D A9 (cat [[(A 0, .inr (6, [.int ((mSh M n).1), .ref (A 1), .ref (A 2), .int (nI ((mSh M n).2.2.2.1)), .ref (A 3), .int (nI ((mSh M n).2.2.2.2.2.1)), .ref (A 4), .ref (A 5), .ref (A 6), .ref (A 7), .int ((mSh M n).2.2.2.2.2.2.2.2.2.2.1), .int ((mSh M n).2.2.2.2.2.2.2.2.2.2.2)]))], [(A 1, .inl (cyI, 91, .inl (upd z1 87 ((1 : Int32)))))], [(A 2, .inl (cyI, 546, .inl ((mSh M n).2.2.1)))], [(A 3, .inl (cyI, 60, .inl ((mSh M n).2.2.2.2.1)))], [(A 4, .inl (cyI, 20, .inl ((mSh M n).2.2.2.2.2.2.1)))], [(A 5, .inl (cyI, 6, .inl ((mSh M n).2.2.2.2.2.2.2.1)))], [(A 6, .inl (cyI, 6, .inl ((mSh M n).2.2.2.2.2.2.2.2.1)))], [(A 7, .inl (cyI, 6, .inl ((mSh M n).2.2.2.2.2.2.2.2.2.1)))]]) := hD
      refine lv_iload_n hx hb dX6_doPlan_76 rfl (lv_at hl 1 rfl) ?_
      have hgo : cat [[(A 0, .inr (6, [.int ((mSh M n).1), .ref (A 1), .ref (A 2), .int (nI ((mSh M n).2.2.2.1)), .ref (A 3), .int (nI ((mSh M n).2.2.2.2.2.1)), .ref (A 4), .ref (A 5), .ref (A 6), .ref (A 7), .int ((mSh M n).2.2.2.2.2.2.2.2.2.2.1), .int ((mSh M n).2.2.2.2.2.2.2.2.2.2.2)]))], [(A 1, .inl (cyI, 91, .inl (upd z1 87 ((1 : Int32)))))], [(A 2, .inl (cyI, 546, .inl ((mSh M n).2.2.1)))], [(A 3, .inl (cyI, 60, .inl ((mSh M n).2.2.2.2.1)))], [(A 4, .inl (cyI, 20, .inl ((mSh M n).2.2.2.2.2.2.1)))], [(A 5, .inl (cyI, 6, .inl ((mSh M n).2.2.2.2.2.2.2.1)))], [(A 6, .inl (cyI, 6, .inl ((mSh M n).2.2.2.2.2.2.2.2.1)))], [(A 7, .inl (cyI, 6, .inl ((mSh M n).2.2.2.2.2.2.2.2.2.1)))]] = cat [mdW cyI A (mDoPlan M n)] := by unfold mDoPlan; rw [← hz2]; (first | rw [if_pos c_67] | rw [if_neg c_67]); rfl
      rw [hgo] at hP hD
      have hP : va_P G vwCl (cat [mdW cyI A (mDoPlan M n)]) H := hP
      have hD : va_D A9 (cat [mdW cyI A (mDoPlan M n)]) := hD
      exact end_i hx hb hr hlocks hK hP hD hS (rfl) dX6_doPlan_77
  · have c_14 : ¬ (n) ≤ (i) := fun h9 => c_14 ((nI_leI (a := n) (b := i) (by omega) (by omega)).mpr h9)
    refine lv_iload_n hx hb dX6_doPlan_17 rfl (lv_at hl 1 rfl) ?_
    refine lv_if_le (tgt := 60) hx hb dX6_doPlan_18 (by decide) (fun c_18 => ?_) (fun c_18 => ?_)
    · obtain rfl : i = 0 := hr0 c_18
      have hz2 : z1 = if mShR M n ≤ 0 then M.2.1 else itr n (dpStep ((mSh M n)).2.2.2.2.2.2.1) (M.2.1) := by rw [if_pos c_18, he]; rfl
      refine lv_aload_n hx hb dX6_doPlan_60 rfl (lv_at hl 2 rfl) ?_
      refine va_get (v := .ref (A 1)) (C := RX6) (T := TX6) (N := 12) hx hb hts hinX6 hown hK hP 0 rfl rfl 1 (by decide) hf7 (fun _ h9 => h9) rfl dX6_doPlan_61 ?_
      refine lv_bipush (v := (87 : Int32)) hx hb dX6_doPlan_64 (by decide) ?_
      refine lv_iload_n hx hb dX6_doPlan_66 rfl (lv_at hl 1 rfl) ?_
      refine lv_if_le (tgt := 74) hx hb dX6_doPlan_67 (by decide) (fun c_67 => ?_) (fun c_67 => ?_)
      · refine lv_iconst (v := (0 : Int32)) hx hb dX6_doPlan_74 (by decide) ?_
        refine r_ist (k := 87) (n := 91) (f := z1) hx hb hK hP hD hS 1 0 rfl rfl (by omega) (by omega) rfl dX6_doPlan_75 (fun H locs hP hD hS => ?_)
        have hP : va_P G vwCl (cat [[(A 0, .inr (6, [.int ((mSh M n).1), .ref (A 1), .ref (A 2), .int (nI ((mSh M n).2.2.2.1)), .ref (A 3), .int (nI ((mSh M n).2.2.2.2.2.1)), .ref (A 4), .ref (A 5), .ref (A 6), .ref (A 7), .int ((mSh M n).2.2.2.2.2.2.2.2.2.2.1), .int ((mSh M n).2.2.2.2.2.2.2.2.2.2.2)]))], [(A 1, .inl (cyI, 91, .inl (upd z1 87 ((0 : Int32)))))], [(A 2, .inl (cyI, 546, .inl ((mSh M n).2.2.1)))], [(A 3, .inl (cyI, 60, .inl ((mSh M n).2.2.2.2.1)))], [(A 4, .inl (cyI, 20, .inl ((mSh M n).2.2.2.2.2.2.1)))], [(A 5, .inl (cyI, 6, .inl ((mSh M n).2.2.2.2.2.2.2.1)))], [(A 6, .inl (cyI, 6, .inl ((mSh M n).2.2.2.2.2.2.2.2.1)))], [(A 7, .inl (cyI, 6, .inl ((mSh M n).2.2.2.2.2.2.2.2.2.1)))]]) H := hP
        have hD : va_D A9 (cat [[(A 0, .inr (6, [.int ((mSh M n).1), .ref (A 1), .ref (A 2), .int (nI ((mSh M n).2.2.2.1)), .ref (A 3), .int (nI ((mSh M n).2.2.2.2.2.1)), .ref (A 4), .ref (A 5), .ref (A 6), .ref (A 7), .int ((mSh M n).2.2.2.2.2.2.2.2.2.2.1), .int ((mSh M n).2.2.2.2.2.2.2.2.2.2.2)]))], [(A 1, .inl (cyI, 91, .inl (upd z1 87 ((0 : Int32)))))], [(A 2, .inl (cyI, 546, .inl ((mSh M n).2.2.1)))], [(A 3, .inl (cyI, 60, .inl ((mSh M n).2.2.2.2.1)))], [(A 4, .inl (cyI, 20, .inl ((mSh M n).2.2.2.2.2.2.1)))], [(A 5, .inl (cyI, 6, .inl ((mSh M n).2.2.2.2.2.2.2.1)))], [(A 6, .inl (cyI, 6, .inl ((mSh M n).2.2.2.2.2.2.2.2.1)))], [(A 7, .inl (cyI, 6, .inl ((mSh M n).2.2.2.2.2.2.2.2.2.1)))]]) := hD
        refine lv_iload_n hx hb dX6_doPlan_76 rfl (lv_at hl 1 rfl) ?_
        have hgo : cat [[(A 0, .inr (6, [.int ((mSh M n).1), .ref (A 1), .ref (A 2), .int (nI ((mSh M n).2.2.2.1)), .ref (A 3), .int (nI ((mSh M n).2.2.2.2.2.1)), .ref (A 4), .ref (A 5), .ref (A 6), .ref (A 7), .int ((mSh M n).2.2.2.2.2.2.2.2.2.2.1), .int ((mSh M n).2.2.2.2.2.2.2.2.2.2.2)]))], [(A 1, .inl (cyI, 91, .inl (upd z1 87 ((0 : Int32)))))], [(A 2, .inl (cyI, 546, .inl ((mSh M n).2.2.1)))], [(A 3, .inl (cyI, 60, .inl ((mSh M n).2.2.2.2.1)))], [(A 4, .inl (cyI, 20, .inl ((mSh M n).2.2.2.2.2.2.1)))], [(A 5, .inl (cyI, 6, .inl ((mSh M n).2.2.2.2.2.2.2.1)))], [(A 6, .inl (cyI, 6, .inl ((mSh M n).2.2.2.2.2.2.2.2.1)))], [(A 7, .inl (cyI, 6, .inl ((mSh M n).2.2.2.2.2.2.2.2.2.1)))]] = cat [mdW cyI A (mDoPlan M n)] := by unfold mDoPlan; rw [← hz2]; (first | rw [if_pos c_67] | rw [if_neg c_67]); rfl
        rw [hgo] at hP hD
        have hP : va_P G vwCl (cat [mdW cyI A (mDoPlan M n)]) H := hP
        have hD : va_D A9 (cat [mdW cyI A (mDoPlan M n)]) := hD
        exact end_i hx hb hr hlocks hK hP hD hS (rfl) dX6_doPlan_77
      · refine lv_iconst (v := (1 : Int32)) hx hb dX6_doPlan_70 (by decide) ?_
        refine lv_goto (tgt := 75) hx hb dX6_doPlan_71 (by decide) ?_
        refine r_ist (k := 87) (n := 91) (f := z1) hx hb hK hP hD hS 1 0 rfl rfl (by omega) (by omega) rfl dX6_doPlan_75 (fun H locs hP hD hS => ?_)
        have hP : va_P G vwCl (cat [[(A 0, .inr (6, [.int ((mSh M n).1), .ref (A 1), .ref (A 2), .int (nI ((mSh M n).2.2.2.1)), .ref (A 3), .int (nI ((mSh M n).2.2.2.2.2.1)), .ref (A 4), .ref (A 5), .ref (A 6), .ref (A 7), .int ((mSh M n).2.2.2.2.2.2.2.2.2.2.1), .int ((mSh M n).2.2.2.2.2.2.2.2.2.2.2)]))], [(A 1, .inl (cyI, 91, .inl (upd z1 87 ((1 : Int32)))))], [(A 2, .inl (cyI, 546, .inl ((mSh M n).2.2.1)))], [(A 3, .inl (cyI, 60, .inl ((mSh M n).2.2.2.2.1)))], [(A 4, .inl (cyI, 20, .inl ((mSh M n).2.2.2.2.2.2.1)))], [(A 5, .inl (cyI, 6, .inl ((mSh M n).2.2.2.2.2.2.2.1)))], [(A 6, .inl (cyI, 6, .inl ((mSh M n).2.2.2.2.2.2.2.2.1)))], [(A 7, .inl (cyI, 6, .inl ((mSh M n).2.2.2.2.2.2.2.2.2.1)))]]) H := hP
        have hD : va_D A9 (cat [[(A 0, .inr (6, [.int ((mSh M n).1), .ref (A 1), .ref (A 2), .int (nI ((mSh M n).2.2.2.1)), .ref (A 3), .int (nI ((mSh M n).2.2.2.2.2.1)), .ref (A 4), .ref (A 5), .ref (A 6), .ref (A 7), .int ((mSh M n).2.2.2.2.2.2.2.2.2.2.1), .int ((mSh M n).2.2.2.2.2.2.2.2.2.2.2)]))], [(A 1, .inl (cyI, 91, .inl (upd z1 87 ((1 : Int32)))))], [(A 2, .inl (cyI, 546, .inl ((mSh M n).2.2.1)))], [(A 3, .inl (cyI, 60, .inl ((mSh M n).2.2.2.2.1)))], [(A 4, .inl (cyI, 20, .inl ((mSh M n).2.2.2.2.2.2.1)))], [(A 5, .inl (cyI, 6, .inl ((mSh M n).2.2.2.2.2.2.2.1)))], [(A 6, .inl (cyI, 6, .inl ((mSh M n).2.2.2.2.2.2.2.2.1)))], [(A 7, .inl (cyI, 6, .inl ((mSh M n).2.2.2.2.2.2.2.2.2.1)))]]) := hD
        refine lv_iload_n hx hb dX6_doPlan_76 rfl (lv_at hl 1 rfl) ?_
        have hgo : cat [[(A 0, .inr (6, [.int ((mSh M n).1), .ref (A 1), .ref (A 2), .int (nI ((mSh M n).2.2.2.1)), .ref (A 3), .int (nI ((mSh M n).2.2.2.2.2.1)), .ref (A 4), .ref (A 5), .ref (A 6), .ref (A 7), .int ((mSh M n).2.2.2.2.2.2.2.2.2.2.1), .int ((mSh M n).2.2.2.2.2.2.2.2.2.2.2)]))], [(A 1, .inl (cyI, 91, .inl (upd z1 87 ((1 : Int32)))))], [(A 2, .inl (cyI, 546, .inl ((mSh M n).2.2.1)))], [(A 3, .inl (cyI, 60, .inl ((mSh M n).2.2.2.2.1)))], [(A 4, .inl (cyI, 20, .inl ((mSh M n).2.2.2.2.2.2.1)))], [(A 5, .inl (cyI, 6, .inl ((mSh M n).2.2.2.2.2.2.2.1)))], [(A 6, .inl (cyI, 6, .inl ((mSh M n).2.2.2.2.2.2.2.2.1)))], [(A 7, .inl (cyI, 6, .inl ((mSh M n).2.2.2.2.2.2.2.2.2.1)))]] = cat [mdW cyI A (mDoPlan M n)] := by unfold mDoPlan; rw [← hz2]; (first | rw [if_pos c_67] | rw [if_neg c_67]); rfl
        rw [hgo] at hP hD
        have hP : va_P G vwCl (cat [mdW cyI A (mDoPlan M n)]) H := hP
        have hD : va_D A9 (cat [mdW cyI A (mDoPlan M n)]) := hD
        exact end_i hx hb hr hlocks hK hP hD hS (rfl) dX6_doPlan_77
    · refine lv_aload_n hx hb dX6_doPlan_21 rfl (lv_at hl 2 rfl) ?_
      refine va_get (v := .ref (A 1)) (C := RX6) (T := TX6) (N := 12) hx hb hts hinX6 hown hK hP 0 rfl rfl 1 (by decide) hf7 (fun _ h9 => h9) rfl dX6_doPlan_22 ?_
      refine lv_bipush (v := (41 : Int32)) hx hb dX6_doPlan_25 (by decide) ?_
      refine lv_iload_n hx hb dX6_doPlan_27 rfl (lv_at hl 0 rfl) ?_
      refine lv_iadd hx hb dX6_doPlan_28 ?_
      refine top_i (x' := nI (41 + i)) (nI_add (41) (i)) ?_
      refine lv_aload_n hx hb dX6_doPlan_29 rfl (lv_at hl 2 rfl) ?_
      refine va_get (v := .ref (A 4)) (C := RX6) (T := TX6) (N := 12) hx hb hts hinX6 hown hK hP 0 rfl rfl 6 (by decide) hf19 (fun _ h9 => h9) rfl dX6_doPlan_30 ?_
      refine lv_iload_n hx hb dX6_doPlan_33 rfl (lv_at hl 0 rfl) ?_
      refine r_ild (k := i) (n := 20) (f := (mSh M n).2.2.2.2.2.2.1) hx hb hK hP 4 0 rfl rfl (by omega) (by omega) rfl dX6_doPlan_34 ?_
      refine r_ist (k := 41 + i) (n := 91) (f := z1) hx hb hK hP hD hS 1 0 rfl rfl (by omega) (by omega) rfl dX6_doPlan_35 (fun H locs hP hD hS => ?_)
      have hP : va_P G vwCl (cat [[(A 0, .inr (6, [.int ((mSh M n).1), .ref (A 1), .ref (A 2), .int (nI ((mSh M n).2.2.2.1)), .ref (A 3), .int (nI ((mSh M n).2.2.2.2.2.1)), .ref (A 4), .ref (A 5), .ref (A 6), .ref (A 7), .int ((mSh M n).2.2.2.2.2.2.2.2.2.2.1), .int ((mSh M n).2.2.2.2.2.2.2.2.2.2.2)]))], [(A 1, .inl (cyI, 91, .inl (upd z1 (41 + i) (((mSh M n).2.2.2.2.2.2.1) i))))], [(A 2, .inl (cyI, 546, .inl ((mSh M n).2.2.1)))], [(A 3, .inl (cyI, 60, .inl ((mSh M n).2.2.2.2.1)))], [(A 4, .inl (cyI, 20, .inl ((mSh M n).2.2.2.2.2.2.1)))], [(A 5, .inl (cyI, 6, .inl ((mSh M n).2.2.2.2.2.2.2.1)))], [(A 6, .inl (cyI, 6, .inl ((mSh M n).2.2.2.2.2.2.2.2.1)))], [(A 7, .inl (cyI, 6, .inl ((mSh M n).2.2.2.2.2.2.2.2.2.1)))]]) H := hP
      have hD : va_D A9 (cat [[(A 0, .inr (6, [.int ((mSh M n).1), .ref (A 1), .ref (A 2), .int (nI ((mSh M n).2.2.2.1)), .ref (A 3), .int (nI ((mSh M n).2.2.2.2.2.1)), .ref (A 4), .ref (A 5), .ref (A 6), .ref (A 7), .int ((mSh M n).2.2.2.2.2.2.2.2.2.2.1), .int ((mSh M n).2.2.2.2.2.2.2.2.2.2.2)]))], [(A 1, .inl (cyI, 91, .inl (upd z1 (41 + i) (((mSh M n).2.2.2.2.2.2.1) i))))], [(A 2, .inl (cyI, 546, .inl ((mSh M n).2.2.1)))], [(A 3, .inl (cyI, 60, .inl ((mSh M n).2.2.2.2.1)))], [(A 4, .inl (cyI, 20, .inl ((mSh M n).2.2.2.2.2.2.1)))], [(A 5, .inl (cyI, 6, .inl ((mSh M n).2.2.2.2.2.2.2.1)))], [(A 6, .inl (cyI, 6, .inl ((mSh M n).2.2.2.2.2.2.2.2.1)))], [(A 7, .inl (cyI, 6, .inl ((mSh M n).2.2.2.2.2.2.2.2.2.1)))]]) := hD
      refine lv_aload_n hx hb dX6_doPlan_36 rfl (lv_at hl 2 rfl) ?_
      refine va_get (v := .ref (A 1)) (C := RX6) (T := TX6) (N := 12) hx hb hts hinX6 hown hK hP 0 rfl rfl 1 (by decide) hf7 (fun _ h9 => h9) rfl dX6_doPlan_37 ?_
      refine lv_bipush (v := (61 : Int32)) hx hb dX6_doPlan_40 (by decide) ?_
      refine lv_iload_n hx hb dX6_doPlan_42 rfl (lv_at hl 0 rfl) ?_
      refine lv_iadd hx hb dX6_doPlan_43 ?_
      refine top_i (x' := nI (61 + i)) (nI_add (61) (i)) ?_
      refine lv_aload_n hx hb dX6_doPlan_44 rfl (lv_at hl 2 rfl) ?_
      refine va_get (v := .ref (A 1)) (C := RX6) (T := TX6) (N := 12) hx hb hts hinX6 hown hK hP 0 rfl rfl 1 (by decide) hf7 (fun _ h9 => h9) rfl dX6_doPlan_45 ?_
      refine lv_bipush (v := (21 : Int32)) hx hb dX6_doPlan_48 (by decide) ?_
      refine lv_iload_n hx hb dX6_doPlan_50 rfl (lv_at hl 0 rfl) ?_
      refine lv_iadd hx hb dX6_doPlan_51 ?_
      refine top_i (x' := nI (21 + i)) (nI_add (21) (i)) ?_
      refine r_ild (k := 21 + i) (n := 91) (f := upd z1 (41 + i) (((mSh M n).2.2.2.2.2.2.1) i)) hx hb hK hP 1 0 rfl rfl (by omega) (by omega) rfl dX6_doPlan_52 ?_
      refine r_ist (k := 61 + i) (n := 91) (f := upd z1 (41 + i) (((mSh M n).2.2.2.2.2.2.1) i)) hx hb hK hP hD hS 1 0 rfl rfl (by omega) (by omega) rfl dX6_doPlan_53 (fun H locs hP hD hS => ?_)
      have hP : va_P G vwCl (cat [[(A 0, .inr (6, [.int ((mSh M n).1), .ref (A 1), .ref (A 2), .int (nI ((mSh M n).2.2.2.1)), .ref (A 3), .int (nI ((mSh M n).2.2.2.2.2.1)), .ref (A 4), .ref (A 5), .ref (A 6), .ref (A 7), .int ((mSh M n).2.2.2.2.2.2.2.2.2.2.1), .int ((mSh M n).2.2.2.2.2.2.2.2.2.2.2)]))], [(A 1, .inl (cyI, 91, .inl (upd (upd z1 (41 + i) (((mSh M n).2.2.2.2.2.2.1) i)) (61 + i) ((upd z1 (41 + i) (((mSh M n).2.2.2.2.2.2.1) i)) (21 + i)))))], [(A 2, .inl (cyI, 546, .inl ((mSh M n).2.2.1)))], [(A 3, .inl (cyI, 60, .inl ((mSh M n).2.2.2.2.1)))], [(A 4, .inl (cyI, 20, .inl ((mSh M n).2.2.2.2.2.2.1)))], [(A 5, .inl (cyI, 6, .inl ((mSh M n).2.2.2.2.2.2.2.1)))], [(A 6, .inl (cyI, 6, .inl ((mSh M n).2.2.2.2.2.2.2.2.1)))], [(A 7, .inl (cyI, 6, .inl ((mSh M n).2.2.2.2.2.2.2.2.2.1)))]]) H := hP
      have hD : va_D A9 (cat [[(A 0, .inr (6, [.int ((mSh M n).1), .ref (A 1), .ref (A 2), .int (nI ((mSh M n).2.2.2.1)), .ref (A 3), .int (nI ((mSh M n).2.2.2.2.2.1)), .ref (A 4), .ref (A 5), .ref (A 6), .ref (A 7), .int ((mSh M n).2.2.2.2.2.2.2.2.2.2.1), .int ((mSh M n).2.2.2.2.2.2.2.2.2.2.2)]))], [(A 1, .inl (cyI, 91, .inl (upd (upd z1 (41 + i) (((mSh M n).2.2.2.2.2.2.1) i)) (61 + i) ((upd z1 (41 + i) (((mSh M n).2.2.2.2.2.2.1) i)) (21 + i)))))], [(A 2, .inl (cyI, 546, .inl ((mSh M n).2.2.1)))], [(A 3, .inl (cyI, 60, .inl ((mSh M n).2.2.2.2.1)))], [(A 4, .inl (cyI, 20, .inl ((mSh M n).2.2.2.2.2.2.1)))], [(A 5, .inl (cyI, 6, .inl ((mSh M n).2.2.2.2.2.2.2.1)))], [(A 6, .inl (cyI, 6, .inl ((mSh M n).2.2.2.2.2.2.2.2.1)))], [(A 7, .inl (cyI, 6, .inl ((mSh M n).2.2.2.2.2.2.2.2.2.1)))]]) := hD
      refine lv_iinc (v := nI (i + 1)) (lv' := [(2, .int (nI (i + 1))), (1, .int (mShR M n)), (0, .ref (A 0))]) hx hb dX6_doPlan_54 hl (k := 0) rfl (nI_add _ _) (by decide) rfl (fun ls hl => ?_)
      refine lv_goto (tgt := 7) hx hb dX6_doPlan_57 (by decide) ?_
      exact ih_7 (i + 1, upd (upd z1 (41 + i) (((mSh M n).2.2.2.2.2.2.1) i)) (61 + i) ((upd z1 (41 + i) (((mSh M n).2.2.2.2.2.2.1) i)) (21 + i))) (by show (n - (i + 1)) < (n - i); omega) _ _ _ ⟨(show (i + 1) ≤ n from by omega), (show (upd (upd z1 (41 + i) (((mSh M n).2.2.2.2.2.2.1) i)) (61 + i) ((upd z1 (41 + i) (((mSh M n).2.2.2.2.2.2.1) i)) (21 + i))) 0 = nI n from by rw [pk_un (by omega), pk_un (by omega)]; exact hz1), (show mShR M n ≤ 0 → (i + 1) = 0 from fun h9 => absurd h9 c_18), (show (upd (upd z1 (41 + i) (((mSh M n).2.2.2.2.2.2.1) i)) (61 + i) ((upd z1 (41 + i) (((mSh M n).2.2.2.2.2.2.1) i)) (21 + i))) = itr (i + 1) (dpStep ((mSh M n)).2.2.2.2.2.2.1) (M.2.1) from by rw [he]; rfl), hP, hD, hS, lv_sub hl [0, 1, 2] rfl⟩
abbrev rm_X6_doHandOver : Room := { frames := 0, cells := 0, slots := 0, locals := 0 }
set_option maxHeartbeats 4000000 in
set_option maxRecDepth 100000 in
theorem c_X6_doHandOver (l : Launch) (G : va_G) (cyI cyO : ClassId) (A : Nat → Nat) (M : MS) (n : Nat) (hM : MI M.2.1 n) : CI l G (TY cyI cyO) yX6_doHandOver wsX6_doHandOver rm_X6_doHandOver [.ref (A 0)] [mdW cyI A M] (nI ((hoAll M.2.1 n).2)) [mdW cyI A ((M.1, hoZ M.2.1 n, M.2.2.1, M.2.2.2.1, M.2.2.2.2.1, M.2.2.2.2.2.1, M.2.2.2.2.2.2.1, M.2.2.2.2.2.2.2.1, M.2.2.2.2.2.2.2.2.1, M.2.2.2.2.2.2.2.2.2.1, M.2.2.2.2.2.2.2.2.2.2.1, M.2.2.2.2.2.2.2.2.2.2.2))] := by
  refine wk_I (cc := cX6_doHandOver) (maxL := 3) (ret := (some .int)) (by decide) rfl (Nat.le_of_ble_eq_true rfl) ?_
  intro p9 e9 s9 m9 b9 t9 c9 A9 ls hx hb hr hts hown hlocks hml hK hA hD hP hl hS hnm
  have hl : lv_has ls 3 [(0, .ref (A 0))] := hl
  have hinX6 : ∀ w ∈ wsX60, w ∈ wsX6_doHandOver := by decide +kernel
  have hf7 := hts (.fieldLink RX6 7 "DoorstepRoundsModel" "z" "[I") (by decide +kernel)
  have hz : M.2.1 0 = nI n := hM.1
  have hn : n ≤ 20 := hM.2.1
  have hWk := hM.2.2.1
  have hOw := hM.2.2.2
  have hP : va_P G vwCl (cat [[(A 0, .inr (6, [.int (M.1), .ref (A 1), .ref (A 2), .int (nI (M.2.2.2.1)), .ref (A 3), .int (nI (M.2.2.2.2.2.1)), .ref (A 4), .ref (A 5), .ref (A 6), .ref (A 7), .int (M.2.2.2.2.2.2.2.2.2.2.1), .int (M.2.2.2.2.2.2.2.2.2.2.2)]))], [(A 1, .inl (cyI, 91, .inl (M.2.1)))], [(A 2, .inl (cyI, 546, .inl (M.2.2.1)))], [(A 3, .inl (cyI, 60, .inl (M.2.2.2.2.1)))], [(A 4, .inl (cyI, 20, .inl (M.2.2.2.2.2.2.1)))], [(A 5, .inl (cyI, 6, .inl (M.2.2.2.2.2.2.2.1)))], [(A 6, .inl (cyI, 6, .inl (M.2.2.2.2.2.2.2.2.1)))], [(A 7, .inl (cyI, 6, .inl (M.2.2.2.2.2.2.2.2.2.1)))]]) s9.heap := hP
  have hD : va_D A9 (cat [[(A 0, .inr (6, [.int (M.1), .ref (A 1), .ref (A 2), .int (nI (M.2.2.2.1)), .ref (A 3), .int (nI (M.2.2.2.2.2.1)), .ref (A 4), .ref (A 5), .ref (A 6), .ref (A 7), .int (M.2.2.2.2.2.2.2.2.2.2.1), .int (M.2.2.2.2.2.2.2.2.2.2.2)]))], [(A 1, .inl (cyI, 91, .inl (M.2.1)))], [(A 2, .inl (cyI, 546, .inl (M.2.2.1)))], [(A 3, .inl (cyI, 60, .inl (M.2.2.2.2.1)))], [(A 4, .inl (cyI, 20, .inl (M.2.2.2.2.2.2.1)))], [(A 5, .inl (cyI, 6, .inl (M.2.2.2.2.2.2.2.1)))], [(A 6, .inl (cyI, 6, .inl (M.2.2.2.2.2.2.2.2.1)))], [(A 7, .inl (cyI, 6, .inl (M.2.2.2.2.2.2.2.2.2.1)))]]) := hD
  refine lv_iconst (v := (0 : Int32)) hx hb dX6_doHandOver_0 (by decide) ?_
  refine lv_istore_n (lv' := [(1, .int ((0 : Int32))), (0, .ref (A 0))]) hx hb dX6_doHandOver_1 rfl hl (by decide) rfl (fun ls hl => ?_)
  refine lv_iconst (v := (0 : Int32)) hx hb dX6_doHandOver_2 (by decide) ?_
  refine lv_istore_n (lv' := [(2, .int ((0 : Int32))), (1, .int ((0 : Int32))), (0, .ref (A 0))]) hx hb dX6_doHandOver_3 rfl hl (by decide) rfl (fun ls hl => ?_)
  refine W_loop (α := Nat × (Nat → Int32) × Nat) (I := fun a9 H locs ls => (a9.1 ≤ n) ∧ (a9.2.1 0 = nI n) ∧ ((a9.2.1, a9.2.2) = itr a9.1 hoStep (M.2.1, 0)) ∧ va_P G vwCl (cat [[(A 0, .inr (6, [.int (M.1), .ref (A 1), .ref (A 2), .int (nI (M.2.2.2.1)), .ref (A 3), .int (nI (M.2.2.2.2.2.1)), .ref (A 4), .ref (A 5), .ref (A 6), .ref (A 7), .int (M.2.2.2.2.2.2.2.2.2.2.1), .int (M.2.2.2.2.2.2.2.2.2.2.2)]))], [(A 1, .inl (cyI, 91, .inl (a9.2.1)))], [(A 2, .inl (cyI, 546, .inl (M.2.2.1)))], [(A 3, .inl (cyI, 60, .inl (M.2.2.2.2.1)))], [(A 4, .inl (cyI, 20, .inl (M.2.2.2.2.2.2.1)))], [(A 5, .inl (cyI, 6, .inl (M.2.2.2.2.2.2.2.1)))], [(A 6, .inl (cyI, 6, .inl (M.2.2.2.2.2.2.2.2.1)))], [(A 7, .inl (cyI, 6, .inl (M.2.2.2.2.2.2.2.2.2.1)))]]) H ∧ va_D A9 (cat [[(A 0, .inr (6, [.int (M.1), .ref (A 1), .ref (A 2), .int (nI (M.2.2.2.1)), .ref (A 3), .int (nI (M.2.2.2.2.2.1)), .ref (A 4), .ref (A 5), .ref (A 6), .ref (A 7), .int (M.2.2.2.2.2.2.2.2.2.2.1), .int (M.2.2.2.2.2.2.2.2.2.2.2)]))], [(A 1, .inl (cyI, 91, .inl (a9.2.1)))], [(A 2, .inl (cyI, 546, .inl (M.2.2.1)))], [(A 3, .inl (cyI, 60, .inl (M.2.2.2.2.1)))], [(A 4, .inl (cyI, 20, .inl (M.2.2.2.2.2.2.1)))], [(A 5, .inl (cyI, 6, .inl (M.2.2.2.2.2.2.2.1)))], [(A 6, .inl (cyI, 6, .inl (M.2.2.2.2.2.2.2.2.1)))], [(A 7, .inl (cyI, 6, .inl (M.2.2.2.2.2.2.2.2.2.1)))]]) ∧ va_S A9 s9.heap H locs ∧ lv_has ls 3 [(2, .int (nI (a9.1))), (1, .int (nI (a9.2.2))), (0, .ref (A 0))]) (μ := fun a9 => n - a9.1) (st := fun a9 => []) ?_ (0, M.2.1, 0) _ _ _ ⟨(show 0 ≤ n from by omega), (show M.2.1 0 = nI n from hz), (show (M.2.1, 0) = itr 0 hoStep (M.2.1, 0) from rfl), hP, hD, hS, lv_sub hl [0, 1, 2] rfl⟩
  intro a9 ih_4 H locs ls hI
  obtain ⟨i, z1, x⟩ := a9
  obtain ⟨hi9, hz19, he9, hP9, hD9, hS9, hl9⟩ := hI
  have hi : i ≤ n := hi9
  have hz1 : z1 0 = nI n := hz19
  have he : (z1, x) = itr i hoStep (M.2.1, 0) := he9
  have hP : va_P G vwCl (cat [[(A 0, .inr (6, [.int (M.1), .ref (A 1), .ref (A 2), .int (nI (M.2.2.2.1)), .ref (A 3), .int (nI (M.2.2.2.2.2.1)), .ref (A 4), .ref (A 5), .ref (A 6), .ref (A 7), .int (M.2.2.2.2.2.2.2.2.2.2.1), .int (M.2.2.2.2.2.2.2.2.2.2.2)]))], [(A 1, .inl (cyI, 91, .inl (z1)))], [(A 2, .inl (cyI, 546, .inl (M.2.2.1)))], [(A 3, .inl (cyI, 60, .inl (M.2.2.2.2.1)))], [(A 4, .inl (cyI, 20, .inl (M.2.2.2.2.2.2.1)))], [(A 5, .inl (cyI, 6, .inl (M.2.2.2.2.2.2.2.1)))], [(A 6, .inl (cyI, 6, .inl (M.2.2.2.2.2.2.2.2.1)))], [(A 7, .inl (cyI, 6, .inl (M.2.2.2.2.2.2.2.2.2.1)))]]) H := hP9
  have hD : va_D A9 (cat [[(A 0, .inr (6, [.int (M.1), .ref (A 1), .ref (A 2), .int (nI (M.2.2.2.1)), .ref (A 3), .int (nI (M.2.2.2.2.2.1)), .ref (A 4), .ref (A 5), .ref (A 6), .ref (A 7), .int (M.2.2.2.2.2.2.2.2.2.2.1), .int (M.2.2.2.2.2.2.2.2.2.2.2)]))], [(A 1, .inl (cyI, 91, .inl (z1)))], [(A 2, .inl (cyI, 546, .inl (M.2.2.1)))], [(A 3, .inl (cyI, 60, .inl (M.2.2.2.2.1)))], [(A 4, .inl (cyI, 20, .inl (M.2.2.2.2.2.2.1)))], [(A 5, .inl (cyI, 6, .inl (M.2.2.2.2.2.2.2.1)))], [(A 6, .inl (cyI, 6, .inl (M.2.2.2.2.2.2.2.2.1)))], [(A 7, .inl (cyI, 6, .inl (M.2.2.2.2.2.2.2.2.2.1)))]]) := hD9
  have hS := hS9
  have hl : lv_has ls 3 [(2, .int (nI (i))), (1, .int (nI (x))), (0, .ref (A 0))] := hl9
  clear hi9 hz19 he9 hP9 hD9 hS9 hl9
  refine lv_iload_n hx hb dX6_doHandOver_4 rfl (lv_at hl 0 rfl) ?_
  refine lv_aload_n hx hb dX6_doHandOver_5 rfl (lv_at hl 2 rfl) ?_
  refine va_get (v := .ref (A 1)) (C := RX6) (T := TX6) (N := 12) hx hb hts hinX6 hown hK hP 0 rfl rfl 1 (by decide) hf7 (fun _ h9 => h9) rfl dX6_doHandOver_6 ?_
  refine lv_iconst (v := (0 : Int32)) hx hb dX6_doHandOver_9 (by decide) ?_
  refine r_ild (k := 0) (n := 91) (f := z1) hx hb hK hP 1 0 rfl rfl (by omega) (by omega) rfl dX6_doHandOver_10 ?_
  refine top_i (x' := nI (n)) (hz1) ?_
  refine lv_icmp_ge (tgt := 105) hx hb dX6_doHandOver_11 (by decide) (fun c_11 => ?_) (fun c_11 => ?_)
  · have c_11 : (n) ≤ (i) := (nI_leI (a := n) (b := i) (by omega) (by omega)).mp c_11
    obtain rfl : n = i := by omega
    have e1 : z1 = (hoAll M.2.1 n).1 := congrArg Prod.fst he
    have e2 : x = (hoAll M.2.1 n).2 := congrArg Prod.snd he
    subst e1 e2
    refine lv_aload_n hx hb dX6_doHandOver_105 rfl (lv_at hl 2 rfl) ?_
    refine va_get (v := .ref (A 1)) (C := RX6) (T := TX6) (N := 12) hx hb hts hinX6 hown hK hP 0 rfl rfl 1 (by decide) hf7 (fun _ h9 => h9) rfl dX6_doHandOver_106 ?_
    refine lv_bipush (v := (88 : Int32)) hx hb dX6_doHandOver_109 (by decide) ?_
    refine lv_dup2_11 hx hb dX6_doHandOver_111 rfl rfl ?_
    refine r_ild (k := 88) (n := 91) (f := (hoAll M.2.1 n).1) hx hb hK hP 1 0 rfl rfl (by omega) (by omega) rfl dX6_doHandOver_112 ?_
    refine lv_aload_n hx hb dX6_doHandOver_113 rfl (lv_at hl 2 rfl) ?_
    refine va_get (v := .ref (A 1)) (C := RX6) (T := TX6) (N := 12) hx hb hts hinX6 hown hK hP 0 rfl rfl 1 (by decide) hf7 (fun _ h9 => h9) rfl dX6_doHandOver_114 ?_
    refine lv_bipush (v := (87 : Int32)) hx hb dX6_doHandOver_117 (by decide) ?_
    refine r_ild (k := 87) (n := 91) (f := (hoAll M.2.1 n).1) hx hb hK hP 1 0 rfl rfl (by omega) (by omega) rfl dX6_doHandOver_119 ?_
    refine lv_iconst (v := (2 : Int32)) hx hb dX6_doHandOver_120 (by decide) ?_
    refine lv_icmp_ne (tgt := 128) hx hb dX6_doHandOver_121 (by decide) (fun c_121 => ?_) (fun c_121 => ?_)
    · refine lv_iconst (v := (0 : Int32)) hx hb dX6_doHandOver_128 (by decide) ?_
      refine lv_iadd hx hb dX6_doHandOver_129 ?_
      refine r_ist (k := 88) (n := 91) (f := (hoAll M.2.1 n).1) hx hb hK hP hD hS 1 0 rfl rfl (by omega) (by omega) rfl dX6_doHandOver_130 (fun H locs hP hD hS => ?_)
      have hP : va_P G vwCl (cat [[(A 0, .inr (6, [.int (M.1), .ref (A 1), .ref (A 2), .int (nI (M.2.2.2.1)), .ref (A 3), .int (nI (M.2.2.2.2.2.1)), .ref (A 4), .ref (A 5), .ref (A 6), .ref (A 7), .int (M.2.2.2.2.2.2.2.2.2.2.1), .int (M.2.2.2.2.2.2.2.2.2.2.2)]))], [(A 1, .inl (cyI, 91, .inl (upd ((hoAll M.2.1 n).1) 88 ((((hoAll M.2.1 n).1) 88) + ((0 : Int32))))))], [(A 2, .inl (cyI, 546, .inl (M.2.2.1)))], [(A 3, .inl (cyI, 60, .inl (M.2.2.2.2.1)))], [(A 4, .inl (cyI, 20, .inl (M.2.2.2.2.2.2.1)))], [(A 5, .inl (cyI, 6, .inl (M.2.2.2.2.2.2.2.1)))], [(A 6, .inl (cyI, 6, .inl (M.2.2.2.2.2.2.2.2.1)))], [(A 7, .inl (cyI, 6, .inl (M.2.2.2.2.2.2.2.2.2.1)))]]) H := hP
      have hD : va_D A9 (cat [[(A 0, .inr (6, [.int (M.1), .ref (A 1), .ref (A 2), .int (nI (M.2.2.2.1)), .ref (A 3), .int (nI (M.2.2.2.2.2.1)), .ref (A 4), .ref (A 5), .ref (A 6), .ref (A 7), .int (M.2.2.2.2.2.2.2.2.2.2.1), .int (M.2.2.2.2.2.2.2.2.2.2.2)]))], [(A 1, .inl (cyI, 91, .inl (upd ((hoAll M.2.1 n).1) 88 ((((hoAll M.2.1 n).1) 88) + ((0 : Int32))))))], [(A 2, .inl (cyI, 546, .inl (M.2.2.1)))], [(A 3, .inl (cyI, 60, .inl (M.2.2.2.2.1)))], [(A 4, .inl (cyI, 20, .inl (M.2.2.2.2.2.2.1)))], [(A 5, .inl (cyI, 6, .inl (M.2.2.2.2.2.2.2.1)))], [(A 6, .inl (cyI, 6, .inl (M.2.2.2.2.2.2.2.2.1)))], [(A 7, .inl (cyI, 6, .inl (M.2.2.2.2.2.2.2.2.2.1)))]]) := hD
      refine lv_aload_n hx hb dX6_doHandOver_131 rfl (lv_at hl 2 rfl) ?_
      refine va_get (v := .ref (A 1)) (C := RX6) (T := TX6) (N := 12) hx hb hts hinX6 hown hK hP 0 rfl rfl 1 (by decide) hf7 (fun _ h9 => h9) rfl dX6_doHandOver_132 ?_
      refine lv_bipush (v := (87 : Int32)) hx hb dX6_doHandOver_135 (by decide) ?_
      refine lv_aload_n hx hb dX6_doHandOver_137 rfl (lv_at hl 2 rfl) ?_
      refine va_get (v := .ref (A 1)) (C := RX6) (T := TX6) (N := 12) hx hb hts hinX6 hown hK hP 0 rfl rfl 1 (by decide) hf7 (fun _ h9 => h9) rfl dX6_doHandOver_138 ?_
      refine lv_bipush (v := (87 : Int32)) hx hb dX6_doHandOver_141 (by decide) ?_
      refine r_ild (k := 87) (n := 91) (f := upd ((hoAll M.2.1 n).1) 88 ((((hoAll M.2.1 n).1) 88) + ((0 : Int32)))) hx hb hK hP 1 0 rfl rfl (by omega) (by omega) rfl dX6_doHandOver_143 ?_
      refine lv_iconst (v := (2 : Int32)) hx hb dX6_doHandOver_144 (by decide) ?_
      refine lv_icmp_ne (tgt := 152) hx hb dX6_doHandOver_145 (by decide) (fun c_145 => ?_) (fun c_145 => ?_)
      · refine lv_iconst (v := (2 : Int32)) hx hb dX6_doHandOver_152 (by decide) ?_
        refine r_ist (k := 87) (n := 91) (f := upd ((hoAll M.2.1 n).1) 88 ((((hoAll M.2.1 n).1) 88) + ((0 : Int32)))) hx hb hK hP hD hS 1 0 rfl rfl (by omega) (by omega) rfl dX6_doHandOver_153 (fun H locs hP hD hS => ?_)
        have hP : va_P G vwCl (cat [[(A 0, .inr (6, [.int (M.1), .ref (A 1), .ref (A 2), .int (nI (M.2.2.2.1)), .ref (A 3), .int (nI (M.2.2.2.2.2.1)), .ref (A 4), .ref (A 5), .ref (A 6), .ref (A 7), .int (M.2.2.2.2.2.2.2.2.2.2.1), .int (M.2.2.2.2.2.2.2.2.2.2.2)]))], [(A 1, .inl (cyI, 91, .inl (upd (upd ((hoAll M.2.1 n).1) 88 ((((hoAll M.2.1 n).1) 88) + ((0 : Int32)))) 87 ((2 : Int32)))))], [(A 2, .inl (cyI, 546, .inl (M.2.2.1)))], [(A 3, .inl (cyI, 60, .inl (M.2.2.2.2.1)))], [(A 4, .inl (cyI, 20, .inl (M.2.2.2.2.2.2.1)))], [(A 5, .inl (cyI, 6, .inl (M.2.2.2.2.2.2.2.1)))], [(A 6, .inl (cyI, 6, .inl (M.2.2.2.2.2.2.2.2.1)))], [(A 7, .inl (cyI, 6, .inl (M.2.2.2.2.2.2.2.2.2.1)))]]) H := hP
        have hD : va_D A9 (cat [[(A 0, .inr (6, [.int (M.1), .ref (A 1), .ref (A 2), .int (nI (M.2.2.2.1)), .ref (A 3), .int (nI (M.2.2.2.2.2.1)), .ref (A 4), .ref (A 5), .ref (A 6), .ref (A 7), .int (M.2.2.2.2.2.2.2.2.2.2.1), .int (M.2.2.2.2.2.2.2.2.2.2.2)]))], [(A 1, .inl (cyI, 91, .inl (upd (upd ((hoAll M.2.1 n).1) 88 ((((hoAll M.2.1 n).1) 88) + ((0 : Int32)))) 87 ((2 : Int32)))))], [(A 2, .inl (cyI, 546, .inl (M.2.2.1)))], [(A 3, .inl (cyI, 60, .inl (M.2.2.2.2.1)))], [(A 4, .inl (cyI, 20, .inl (M.2.2.2.2.2.2.1)))], [(A 5, .inl (cyI, 6, .inl (M.2.2.2.2.2.2.2.1)))], [(A 6, .inl (cyI, 6, .inl (M.2.2.2.2.2.2.2.2.1)))], [(A 7, .inl (cyI, 6, .inl (M.2.2.2.2.2.2.2.2.2.1)))]]) := hD
        refine lv_iload_n hx hb dX6_doHandOver_154 rfl (lv_at hl 1 rfl) ?_
        have hgo : cat [[(A 0, .inr (6, [.int (M.1), .ref (A 1), .ref (A 2), .int (nI (M.2.2.2.1)), .ref (A 3), .int (nI (M.2.2.2.2.2.1)), .ref (A 4), .ref (A 5), .ref (A 6), .ref (A 7), .int (M.2.2.2.2.2.2.2.2.2.2.1), .int (M.2.2.2.2.2.2.2.2.2.2.2)]))], [(A 1, .inl (cyI, 91, .inl (upd (upd ((hoAll M.2.1 n).1) 88 ((((hoAll M.2.1 n).1) 88) + ((0 : Int32)))) 87 ((2 : Int32)))))], [(A 2, .inl (cyI, 546, .inl (M.2.2.1)))], [(A 3, .inl (cyI, 60, .inl (M.2.2.2.2.1)))], [(A 4, .inl (cyI, 20, .inl (M.2.2.2.2.2.2.1)))], [(A 5, .inl (cyI, 6, .inl (M.2.2.2.2.2.2.2.1)))], [(A 6, .inl (cyI, 6, .inl (M.2.2.2.2.2.2.2.2.1)))], [(A 7, .inl (cyI, 6, .inl (M.2.2.2.2.2.2.2.2.2.1)))]] = cat [mdW cyI A ((M.1, hoZ M.2.1 n, M.2.2.1, M.2.2.2.1, M.2.2.2.2.1, M.2.2.2.2.2.1, M.2.2.2.2.2.2.1, M.2.2.2.2.2.2.2.1, M.2.2.2.2.2.2.2.2.1, M.2.2.2.2.2.2.2.2.2.1, M.2.2.2.2.2.2.2.2.2.2.1, M.2.2.2.2.2.2.2.2.2.2.2))] := by unfold hoZ; (first | rw [if_pos c_121] | rw [if_neg c_121]); (first | rw [if_pos c_145] | rw [if_neg c_145]); rfl
        rw [hgo] at hP hD
        have hP : va_P G vwCl (cat [mdW cyI A ((M.1, hoZ M.2.1 n, M.2.2.1, M.2.2.2.1, M.2.2.2.2.1, M.2.2.2.2.2.1, M.2.2.2.2.2.2.1, M.2.2.2.2.2.2.2.1, M.2.2.2.2.2.2.2.2.1, M.2.2.2.2.2.2.2.2.2.1, M.2.2.2.2.2.2.2.2.2.2.1, M.2.2.2.2.2.2.2.2.2.2.2))]) H := hP
        have hD : va_D A9 (cat [mdW cyI A ((M.1, hoZ M.2.1 n, M.2.2.1, M.2.2.2.1, M.2.2.2.2.1, M.2.2.2.2.2.1, M.2.2.2.2.2.2.1, M.2.2.2.2.2.2.2.1, M.2.2.2.2.2.2.2.2.1, M.2.2.2.2.2.2.2.2.2.1, M.2.2.2.2.2.2.2.2.2.2.1, M.2.2.2.2.2.2.2.2.2.2.2))]) := hD
        exact end_i hx hb hr hlocks hK hP hD hS (rfl) dX6_doHandOver_155
      · refine lv_iconst (v := (0 : Int32)) hx hb dX6_doHandOver_148 (by decide) ?_
        refine lv_goto (tgt := 153) hx hb dX6_doHandOver_149 (by decide) ?_
        refine r_ist (k := 87) (n := 91) (f := upd ((hoAll M.2.1 n).1) 88 ((((hoAll M.2.1 n).1) 88) + ((0 : Int32)))) hx hb hK hP hD hS 1 0 rfl rfl (by omega) (by omega) rfl dX6_doHandOver_153 (fun H locs hP hD hS => ?_)
        have hP : va_P G vwCl (cat [[(A 0, .inr (6, [.int (M.1), .ref (A 1), .ref (A 2), .int (nI (M.2.2.2.1)), .ref (A 3), .int (nI (M.2.2.2.2.2.1)), .ref (A 4), .ref (A 5), .ref (A 6), .ref (A 7), .int (M.2.2.2.2.2.2.2.2.2.2.1), .int (M.2.2.2.2.2.2.2.2.2.2.2)]))], [(A 1, .inl (cyI, 91, .inl (upd (upd ((hoAll M.2.1 n).1) 88 ((((hoAll M.2.1 n).1) 88) + ((0 : Int32)))) 87 ((0 : Int32)))))], [(A 2, .inl (cyI, 546, .inl (M.2.2.1)))], [(A 3, .inl (cyI, 60, .inl (M.2.2.2.2.1)))], [(A 4, .inl (cyI, 20, .inl (M.2.2.2.2.2.2.1)))], [(A 5, .inl (cyI, 6, .inl (M.2.2.2.2.2.2.2.1)))], [(A 6, .inl (cyI, 6, .inl (M.2.2.2.2.2.2.2.2.1)))], [(A 7, .inl (cyI, 6, .inl (M.2.2.2.2.2.2.2.2.2.1)))]]) H := hP
        have hD : va_D A9 (cat [[(A 0, .inr (6, [.int (M.1), .ref (A 1), .ref (A 2), .int (nI (M.2.2.2.1)), .ref (A 3), .int (nI (M.2.2.2.2.2.1)), .ref (A 4), .ref (A 5), .ref (A 6), .ref (A 7), .int (M.2.2.2.2.2.2.2.2.2.2.1), .int (M.2.2.2.2.2.2.2.2.2.2.2)]))], [(A 1, .inl (cyI, 91, .inl (upd (upd ((hoAll M.2.1 n).1) 88 ((((hoAll M.2.1 n).1) 88) + ((0 : Int32)))) 87 ((0 : Int32)))))], [(A 2, .inl (cyI, 546, .inl (M.2.2.1)))], [(A 3, .inl (cyI, 60, .inl (M.2.2.2.2.1)))], [(A 4, .inl (cyI, 20, .inl (M.2.2.2.2.2.2.1)))], [(A 5, .inl (cyI, 6, .inl (M.2.2.2.2.2.2.2.1)))], [(A 6, .inl (cyI, 6, .inl (M.2.2.2.2.2.2.2.2.1)))], [(A 7, .inl (cyI, 6, .inl (M.2.2.2.2.2.2.2.2.2.1)))]]) := hD
        refine lv_iload_n hx hb dX6_doHandOver_154 rfl (lv_at hl 1 rfl) ?_
        have hgo : cat [[(A 0, .inr (6, [.int (M.1), .ref (A 1), .ref (A 2), .int (nI (M.2.2.2.1)), .ref (A 3), .int (nI (M.2.2.2.2.2.1)), .ref (A 4), .ref (A 5), .ref (A 6), .ref (A 7), .int (M.2.2.2.2.2.2.2.2.2.2.1), .int (M.2.2.2.2.2.2.2.2.2.2.2)]))], [(A 1, .inl (cyI, 91, .inl (upd (upd ((hoAll M.2.1 n).1) 88 ((((hoAll M.2.1 n).1) 88) + ((0 : Int32)))) 87 ((0 : Int32)))))], [(A 2, .inl (cyI, 546, .inl (M.2.2.1)))], [(A 3, .inl (cyI, 60, .inl (M.2.2.2.2.1)))], [(A 4, .inl (cyI, 20, .inl (M.2.2.2.2.2.2.1)))], [(A 5, .inl (cyI, 6, .inl (M.2.2.2.2.2.2.2.1)))], [(A 6, .inl (cyI, 6, .inl (M.2.2.2.2.2.2.2.2.1)))], [(A 7, .inl (cyI, 6, .inl (M.2.2.2.2.2.2.2.2.2.1)))]] = cat [mdW cyI A ((M.1, hoZ M.2.1 n, M.2.2.1, M.2.2.2.1, M.2.2.2.2.1, M.2.2.2.2.2.1, M.2.2.2.2.2.2.1, M.2.2.2.2.2.2.2.1, M.2.2.2.2.2.2.2.2.1, M.2.2.2.2.2.2.2.2.2.1, M.2.2.2.2.2.2.2.2.2.2.1, M.2.2.2.2.2.2.2.2.2.2.2))] := by unfold hoZ; (first | rw [if_pos c_121] | rw [if_neg c_121]); (first | rw [if_pos c_145] | rw [if_neg c_145]); rfl
        rw [hgo] at hP hD
        have hP : va_P G vwCl (cat [mdW cyI A ((M.1, hoZ M.2.1 n, M.2.2.1, M.2.2.2.1, M.2.2.2.2.1, M.2.2.2.2.2.1, M.2.2.2.2.2.2.1, M.2.2.2.2.2.2.2.1, M.2.2.2.2.2.2.2.2.1, M.2.2.2.2.2.2.2.2.2.1, M.2.2.2.2.2.2.2.2.2.2.1, M.2.2.2.2.2.2.2.2.2.2.2))]) H := hP
        have hD : va_D A9 (cat [mdW cyI A ((M.1, hoZ M.2.1 n, M.2.2.1, M.2.2.2.1, M.2.2.2.2.1, M.2.2.2.2.2.1, M.2.2.2.2.2.2.1, M.2.2.2.2.2.2.2.1, M.2.2.2.2.2.2.2.2.1, M.2.2.2.2.2.2.2.2.2.1, M.2.2.2.2.2.2.2.2.2.2.1, M.2.2.2.2.2.2.2.2.2.2.2))]) := hD
        exact end_i hx hb hr hlocks hK hP hD hS (rfl) dX6_doHandOver_155
    · refine lv_iload_n hx hb dX6_doHandOver_124 rfl (lv_at hl 1 rfl) ?_
      refine lv_goto (tgt := 129) hx hb dX6_doHandOver_125 (by decide) ?_
      refine lv_iadd hx hb dX6_doHandOver_129 ?_
      refine r_ist (k := 88) (n := 91) (f := (hoAll M.2.1 n).1) hx hb hK hP hD hS 1 0 rfl rfl (by omega) (by omega) rfl dX6_doHandOver_130 (fun H locs hP hD hS => ?_)
      have hP : va_P G vwCl (cat [[(A 0, .inr (6, [.int (M.1), .ref (A 1), .ref (A 2), .int (nI (M.2.2.2.1)), .ref (A 3), .int (nI (M.2.2.2.2.2.1)), .ref (A 4), .ref (A 5), .ref (A 6), .ref (A 7), .int (M.2.2.2.2.2.2.2.2.2.2.1), .int (M.2.2.2.2.2.2.2.2.2.2.2)]))], [(A 1, .inl (cyI, 91, .inl (upd ((hoAll M.2.1 n).1) 88 ((((hoAll M.2.1 n).1) 88) + (nI (((hoAll M.2.1 n).2)))))))], [(A 2, .inl (cyI, 546, .inl (M.2.2.1)))], [(A 3, .inl (cyI, 60, .inl (M.2.2.2.2.1)))], [(A 4, .inl (cyI, 20, .inl (M.2.2.2.2.2.2.1)))], [(A 5, .inl (cyI, 6, .inl (M.2.2.2.2.2.2.2.1)))], [(A 6, .inl (cyI, 6, .inl (M.2.2.2.2.2.2.2.2.1)))], [(A 7, .inl (cyI, 6, .inl (M.2.2.2.2.2.2.2.2.2.1)))]]) H := hP
      have hD : va_D A9 (cat [[(A 0, .inr (6, [.int (M.1), .ref (A 1), .ref (A 2), .int (nI (M.2.2.2.1)), .ref (A 3), .int (nI (M.2.2.2.2.2.1)), .ref (A 4), .ref (A 5), .ref (A 6), .ref (A 7), .int (M.2.2.2.2.2.2.2.2.2.2.1), .int (M.2.2.2.2.2.2.2.2.2.2.2)]))], [(A 1, .inl (cyI, 91, .inl (upd ((hoAll M.2.1 n).1) 88 ((((hoAll M.2.1 n).1) 88) + (nI (((hoAll M.2.1 n).2)))))))], [(A 2, .inl (cyI, 546, .inl (M.2.2.1)))], [(A 3, .inl (cyI, 60, .inl (M.2.2.2.2.1)))], [(A 4, .inl (cyI, 20, .inl (M.2.2.2.2.2.2.1)))], [(A 5, .inl (cyI, 6, .inl (M.2.2.2.2.2.2.2.1)))], [(A 6, .inl (cyI, 6, .inl (M.2.2.2.2.2.2.2.2.1)))], [(A 7, .inl (cyI, 6, .inl (M.2.2.2.2.2.2.2.2.2.1)))]]) := hD
      refine lv_aload_n hx hb dX6_doHandOver_131 rfl (lv_at hl 2 rfl) ?_
      refine va_get (v := .ref (A 1)) (C := RX6) (T := TX6) (N := 12) hx hb hts hinX6 hown hK hP 0 rfl rfl 1 (by decide) hf7 (fun _ h9 => h9) rfl dX6_doHandOver_132 ?_
      refine lv_bipush (v := (87 : Int32)) hx hb dX6_doHandOver_135 (by decide) ?_
      refine lv_aload_n hx hb dX6_doHandOver_137 rfl (lv_at hl 2 rfl) ?_
      refine va_get (v := .ref (A 1)) (C := RX6) (T := TX6) (N := 12) hx hb hts hinX6 hown hK hP 0 rfl rfl 1 (by decide) hf7 (fun _ h9 => h9) rfl dX6_doHandOver_138 ?_
      refine lv_bipush (v := (87 : Int32)) hx hb dX6_doHandOver_141 (by decide) ?_
      refine r_ild (k := 87) (n := 91) (f := upd ((hoAll M.2.1 n).1) 88 ((((hoAll M.2.1 n).1) 88) + (nI (((hoAll M.2.1 n).2))))) hx hb hK hP 1 0 rfl rfl (by omega) (by omega) rfl dX6_doHandOver_143 ?_
      refine lv_iconst (v := (2 : Int32)) hx hb dX6_doHandOver_144 (by decide) ?_
      refine lv_icmp_ne (tgt := 152) hx hb dX6_doHandOver_145 (by decide) (fun c_145 => ?_) (fun c_145 => ?_)
      · refine lv_iconst (v := (2 : Int32)) hx hb dX6_doHandOver_152 (by decide) ?_
        refine r_ist (k := 87) (n := 91) (f := upd ((hoAll M.2.1 n).1) 88 ((((hoAll M.2.1 n).1) 88) + (nI (((hoAll M.2.1 n).2))))) hx hb hK hP hD hS 1 0 rfl rfl (by omega) (by omega) rfl dX6_doHandOver_153 (fun H locs hP hD hS => ?_)
        have hP : va_P G vwCl (cat [[(A 0, .inr (6, [.int (M.1), .ref (A 1), .ref (A 2), .int (nI (M.2.2.2.1)), .ref (A 3), .int (nI (M.2.2.2.2.2.1)), .ref (A 4), .ref (A 5), .ref (A 6), .ref (A 7), .int (M.2.2.2.2.2.2.2.2.2.2.1), .int (M.2.2.2.2.2.2.2.2.2.2.2)]))], [(A 1, .inl (cyI, 91, .inl (upd (upd ((hoAll M.2.1 n).1) 88 ((((hoAll M.2.1 n).1) 88) + (nI (((hoAll M.2.1 n).2))))) 87 ((2 : Int32)))))], [(A 2, .inl (cyI, 546, .inl (M.2.2.1)))], [(A 3, .inl (cyI, 60, .inl (M.2.2.2.2.1)))], [(A 4, .inl (cyI, 20, .inl (M.2.2.2.2.2.2.1)))], [(A 5, .inl (cyI, 6, .inl (M.2.2.2.2.2.2.2.1)))], [(A 6, .inl (cyI, 6, .inl (M.2.2.2.2.2.2.2.2.1)))], [(A 7, .inl (cyI, 6, .inl (M.2.2.2.2.2.2.2.2.2.1)))]]) H := hP
        have hD : va_D A9 (cat [[(A 0, .inr (6, [.int (M.1), .ref (A 1), .ref (A 2), .int (nI (M.2.2.2.1)), .ref (A 3), .int (nI (M.2.2.2.2.2.1)), .ref (A 4), .ref (A 5), .ref (A 6), .ref (A 7), .int (M.2.2.2.2.2.2.2.2.2.2.1), .int (M.2.2.2.2.2.2.2.2.2.2.2)]))], [(A 1, .inl (cyI, 91, .inl (upd (upd ((hoAll M.2.1 n).1) 88 ((((hoAll M.2.1 n).1) 88) + (nI (((hoAll M.2.1 n).2))))) 87 ((2 : Int32)))))], [(A 2, .inl (cyI, 546, .inl (M.2.2.1)))], [(A 3, .inl (cyI, 60, .inl (M.2.2.2.2.1)))], [(A 4, .inl (cyI, 20, .inl (M.2.2.2.2.2.2.1)))], [(A 5, .inl (cyI, 6, .inl (M.2.2.2.2.2.2.2.1)))], [(A 6, .inl (cyI, 6, .inl (M.2.2.2.2.2.2.2.2.1)))], [(A 7, .inl (cyI, 6, .inl (M.2.2.2.2.2.2.2.2.2.1)))]]) := hD
        refine lv_iload_n hx hb dX6_doHandOver_154 rfl (lv_at hl 1 rfl) ?_
        have hgo : cat [[(A 0, .inr (6, [.int (M.1), .ref (A 1), .ref (A 2), .int (nI (M.2.2.2.1)), .ref (A 3), .int (nI (M.2.2.2.2.2.1)), .ref (A 4), .ref (A 5), .ref (A 6), .ref (A 7), .int (M.2.2.2.2.2.2.2.2.2.2.1), .int (M.2.2.2.2.2.2.2.2.2.2.2)]))], [(A 1, .inl (cyI, 91, .inl (upd (upd ((hoAll M.2.1 n).1) 88 ((((hoAll M.2.1 n).1) 88) + (nI (((hoAll M.2.1 n).2))))) 87 ((2 : Int32)))))], [(A 2, .inl (cyI, 546, .inl (M.2.2.1)))], [(A 3, .inl (cyI, 60, .inl (M.2.2.2.2.1)))], [(A 4, .inl (cyI, 20, .inl (M.2.2.2.2.2.2.1)))], [(A 5, .inl (cyI, 6, .inl (M.2.2.2.2.2.2.2.1)))], [(A 6, .inl (cyI, 6, .inl (M.2.2.2.2.2.2.2.2.1)))], [(A 7, .inl (cyI, 6, .inl (M.2.2.2.2.2.2.2.2.2.1)))]] = cat [mdW cyI A ((M.1, hoZ M.2.1 n, M.2.2.1, M.2.2.2.1, M.2.2.2.2.1, M.2.2.2.2.2.1, M.2.2.2.2.2.2.1, M.2.2.2.2.2.2.2.1, M.2.2.2.2.2.2.2.2.1, M.2.2.2.2.2.2.2.2.2.1, M.2.2.2.2.2.2.2.2.2.2.1, M.2.2.2.2.2.2.2.2.2.2.2))] := by unfold hoZ; (first | rw [if_pos c_121] | rw [if_neg c_121]); (first | rw [if_pos c_145] | rw [if_neg c_145]); rfl
        rw [hgo] at hP hD
        have hP : va_P G vwCl (cat [mdW cyI A ((M.1, hoZ M.2.1 n, M.2.2.1, M.2.2.2.1, M.2.2.2.2.1, M.2.2.2.2.2.1, M.2.2.2.2.2.2.1, M.2.2.2.2.2.2.2.1, M.2.2.2.2.2.2.2.2.1, M.2.2.2.2.2.2.2.2.2.1, M.2.2.2.2.2.2.2.2.2.2.1, M.2.2.2.2.2.2.2.2.2.2.2))]) H := hP
        have hD : va_D A9 (cat [mdW cyI A ((M.1, hoZ M.2.1 n, M.2.2.1, M.2.2.2.1, M.2.2.2.2.1, M.2.2.2.2.2.1, M.2.2.2.2.2.2.1, M.2.2.2.2.2.2.2.1, M.2.2.2.2.2.2.2.2.1, M.2.2.2.2.2.2.2.2.2.1, M.2.2.2.2.2.2.2.2.2.2.1, M.2.2.2.2.2.2.2.2.2.2.2))]) := hD
        exact end_i hx hb hr hlocks hK hP hD hS (rfl) dX6_doHandOver_155
      · refine lv_iconst (v := (0 : Int32)) hx hb dX6_doHandOver_148 (by decide) ?_
        refine lv_goto (tgt := 153) hx hb dX6_doHandOver_149 (by decide) ?_
        refine r_ist (k := 87) (n := 91) (f := upd ((hoAll M.2.1 n).1) 88 ((((hoAll M.2.1 n).1) 88) + (nI (((hoAll M.2.1 n).2))))) hx hb hK hP hD hS 1 0 rfl rfl (by omega) (by omega) rfl dX6_doHandOver_153 (fun H locs hP hD hS => ?_)
        have hP : va_P G vwCl (cat [[(A 0, .inr (6, [.int (M.1), .ref (A 1), .ref (A 2), .int (nI (M.2.2.2.1)), .ref (A 3), .int (nI (M.2.2.2.2.2.1)), .ref (A 4), .ref (A 5), .ref (A 6), .ref (A 7), .int (M.2.2.2.2.2.2.2.2.2.2.1), .int (M.2.2.2.2.2.2.2.2.2.2.2)]))], [(A 1, .inl (cyI, 91, .inl (upd (upd ((hoAll M.2.1 n).1) 88 ((((hoAll M.2.1 n).1) 88) + (nI (((hoAll M.2.1 n).2))))) 87 ((0 : Int32)))))], [(A 2, .inl (cyI, 546, .inl (M.2.2.1)))], [(A 3, .inl (cyI, 60, .inl (M.2.2.2.2.1)))], [(A 4, .inl (cyI, 20, .inl (M.2.2.2.2.2.2.1)))], [(A 5, .inl (cyI, 6, .inl (M.2.2.2.2.2.2.2.1)))], [(A 6, .inl (cyI, 6, .inl (M.2.2.2.2.2.2.2.2.1)))], [(A 7, .inl (cyI, 6, .inl (M.2.2.2.2.2.2.2.2.2.1)))]]) H := hP
        have hD : va_D A9 (cat [[(A 0, .inr (6, [.int (M.1), .ref (A 1), .ref (A 2), .int (nI (M.2.2.2.1)), .ref (A 3), .int (nI (M.2.2.2.2.2.1)), .ref (A 4), .ref (A 5), .ref (A 6), .ref (A 7), .int (M.2.2.2.2.2.2.2.2.2.2.1), .int (M.2.2.2.2.2.2.2.2.2.2.2)]))], [(A 1, .inl (cyI, 91, .inl (upd (upd ((hoAll M.2.1 n).1) 88 ((((hoAll M.2.1 n).1) 88) + (nI (((hoAll M.2.1 n).2))))) 87 ((0 : Int32)))))], [(A 2, .inl (cyI, 546, .inl (M.2.2.1)))], [(A 3, .inl (cyI, 60, .inl (M.2.2.2.2.1)))], [(A 4, .inl (cyI, 20, .inl (M.2.2.2.2.2.2.1)))], [(A 5, .inl (cyI, 6, .inl (M.2.2.2.2.2.2.2.1)))], [(A 6, .inl (cyI, 6, .inl (M.2.2.2.2.2.2.2.2.1)))], [(A 7, .inl (cyI, 6, .inl (M.2.2.2.2.2.2.2.2.2.1)))]]) := hD
        refine lv_iload_n hx hb dX6_doHandOver_154 rfl (lv_at hl 1 rfl) ?_
        have hgo : cat [[(A 0, .inr (6, [.int (M.1), .ref (A 1), .ref (A 2), .int (nI (M.2.2.2.1)), .ref (A 3), .int (nI (M.2.2.2.2.2.1)), .ref (A 4), .ref (A 5), .ref (A 6), .ref (A 7), .int (M.2.2.2.2.2.2.2.2.2.2.1), .int (M.2.2.2.2.2.2.2.2.2.2.2)]))], [(A 1, .inl (cyI, 91, .inl (upd (upd ((hoAll M.2.1 n).1) 88 ((((hoAll M.2.1 n).1) 88) + (nI (((hoAll M.2.1 n).2))))) 87 ((0 : Int32)))))], [(A 2, .inl (cyI, 546, .inl (M.2.2.1)))], [(A 3, .inl (cyI, 60, .inl (M.2.2.2.2.1)))], [(A 4, .inl (cyI, 20, .inl (M.2.2.2.2.2.2.1)))], [(A 5, .inl (cyI, 6, .inl (M.2.2.2.2.2.2.2.1)))], [(A 6, .inl (cyI, 6, .inl (M.2.2.2.2.2.2.2.2.1)))], [(A 7, .inl (cyI, 6, .inl (M.2.2.2.2.2.2.2.2.2.1)))]] = cat [mdW cyI A ((M.1, hoZ M.2.1 n, M.2.2.1, M.2.2.2.1, M.2.2.2.2.1, M.2.2.2.2.2.1, M.2.2.2.2.2.2.1, M.2.2.2.2.2.2.2.1, M.2.2.2.2.2.2.2.2.1, M.2.2.2.2.2.2.2.2.2.1, M.2.2.2.2.2.2.2.2.2.2.1, M.2.2.2.2.2.2.2.2.2.2.2))] := by unfold hoZ; (first | rw [if_pos c_121] | rw [if_neg c_121]); (first | rw [if_pos c_145] | rw [if_neg c_145]); rfl
        rw [hgo] at hP hD
        have hP : va_P G vwCl (cat [mdW cyI A ((M.1, hoZ M.2.1 n, M.2.2.1, M.2.2.2.1, M.2.2.2.2.1, M.2.2.2.2.2.1, M.2.2.2.2.2.2.1, M.2.2.2.2.2.2.2.1, M.2.2.2.2.2.2.2.2.1, M.2.2.2.2.2.2.2.2.2.1, M.2.2.2.2.2.2.2.2.2.2.1, M.2.2.2.2.2.2.2.2.2.2.2))]) H := hP
        have hD : va_D A9 (cat [mdW cyI A ((M.1, hoZ M.2.1 n, M.2.2.1, M.2.2.2.1, M.2.2.2.2.1, M.2.2.2.2.2.1, M.2.2.2.2.2.2.1, M.2.2.2.2.2.2.2.1, M.2.2.2.2.2.2.2.2.1, M.2.2.2.2.2.2.2.2.2.1, M.2.2.2.2.2.2.2.2.2.2.1, M.2.2.2.2.2.2.2.2.2.2.2))]) := hD
        exact end_i hx hb hr hlocks hK hP hD hS (rfl) dX6_doHandOver_155
  · have c_11 : ¬ (n) ≤ (i) := fun h9 => c_11 ((nI_leI (a := n) (b := i) (by omega) (by omega)).mpr h9)
    refine lv_aload_n hx hb dX6_doHandOver_14 rfl (lv_at hl 2 rfl) ?_
    refine va_get (v := .ref (A 1)) (C := RX6) (T := TX6) (N := 12) hx hb hts hinX6 hown hK hP 0 rfl rfl 1 (by decide) hf7 (fun _ h9 => h9) rfl dX6_doHandOver_15 ?_
    refine lv_bipush (v := (41 : Int32)) hx hb dX6_doHandOver_18 (by decide) ?_
    refine lv_iload_n hx hb dX6_doHandOver_20 rfl (lv_at hl 0 rfl) ?_
    refine lv_iadd hx hb dX6_doHandOver_21 ?_
    refine top_i (x' := nI (41 + i)) (nI_add (41) (i)) ?_
    refine r_ild (k := 41 + i) (n := 91) (f := z1) hx hb hK hP 1 0 rfl rfl (by omega) (by omega) rfl dX6_doHandOver_22 ?_
    refine lv_aload_n hx hb dX6_doHandOver_23 rfl (lv_at hl 2 rfl) ?_
    refine va_get (v := .ref (A 1)) (C := RX6) (T := TX6) (N := 12) hx hb hts hinX6 hown hK hP 0 rfl rfl 1 (by decide) hf7 (fun _ h9 => h9) rfl dX6_doHandOver_24 ?_
    refine lv_bipush (v := (61 : Int32)) hx hb dX6_doHandOver_27 (by decide) ?_
    refine lv_iload_n hx hb dX6_doHandOver_29 rfl (lv_at hl 0 rfl) ?_
    refine lv_iadd hx hb dX6_doHandOver_30 ?_
    refine top_i (x' := nI (61 + i)) (nI_add (61) (i)) ?_
    refine r_ild (k := 61 + i) (n := 91) (f := z1) hx hb hK hP 1 0 rfl rfl (by omega) (by omega) rfl dX6_doHandOver_31 ?_
    refine lv_icmp_eq (tgt := 99) hx hb dX6_doHandOver_32 (by decide) (fun c_32 => ?_) (fun c_32 => ?_)
    · refine lv_iinc (v := nI (i + 1)) (lv' := [(2, .int (nI (i + 1))), (1, .int (nI (x))), (0, .ref (A 0))]) hx hb dX6_doHandOver_99 hl (k := 0) rfl (nI_add _ _) (by decide) rfl (fun ls hl => ?_)
      refine lv_goto (tgt := 4) hx hb dX6_doHandOver_102 (by decide) ?_
      exact ih_4 (i + 1, z1, x) (by show (n - (i + 1)) < (n - i); omega) _ _ _ ⟨(show (i + 1) ≤ n from by omega), (show z1 0 = nI n from by first | exact hz1 | (rw [pk_un (by omega)]; exact hz1)), (show (z1, x) = itr (i + 1) hoStep (M.2.1, 0) from by show _ = hoStep i (itr i _ _); rw [← he]; first | (simp [hoStep, c_11, c_32]; done) | exact absurd c_44 c_82 | exact absurd c_82 c_44), hP, hD, hS, lv_sub hl [0, 1, 2] rfl⟩
    · refine lv_iload_n hx hb dX6_doHandOver_35 rfl (lv_at hl 1 rfl) ?_
      refine lv_aload_n hx hb dX6_doHandOver_36 rfl (lv_at hl 2 rfl) ?_
      refine va_get (v := .ref (A 1)) (C := RX6) (T := TX6) (N := 12) hx hb hts hinX6 hown hK hP 0 rfl rfl 1 (by decide) hf7 (fun _ h9 => h9) rfl dX6_doHandOver_37 ?_
      refine lv_bipush (v := (87 : Int32)) hx hb dX6_doHandOver_40 (by decide) ?_
      refine r_ild (k := 87) (n := 91) (f := z1) hx hb hK hP 1 0 rfl rfl (by omega) (by omega) rfl dX6_doHandOver_42 ?_
      refine lv_iconst (v := (2 : Int32)) hx hb dX6_doHandOver_43 (by decide) ?_
      refine lv_icmp_eq (tgt := 59) hx hb dX6_doHandOver_44 (by decide) (fun c_44 => ?_) (fun c_44 => ?_)
      · refine lv_iconst (v := (1 : Int32)) hx hb dX6_doHandOver_59 (by decide) ?_
        refine lv_goto (tgt := 64) hx hb dX6_doHandOver_60 (by decide) ?_
        refine lv_iadd hx hb dX6_doHandOver_64 ?_
        refine top_i (x' := nI (x + 1)) (nI_add (x) (1)) ?_
        refine lv_istore_n (lv' := [(1, .int (nI (x + 1))), (2, .int (nI (i))), (0, .ref (A 0))]) hx hb dX6_doHandOver_65 rfl hl (by decide) rfl (fun ls hl => ?_)
        refine lv_aload_n hx hb dX6_doHandOver_66 rfl (lv_at hl 2 rfl) ?_
        refine va_get (v := .ref (A 1)) (C := RX6) (T := TX6) (N := 12) hx hb hts hinX6 hown hK hP 0 rfl rfl 1 (by decide) hf7 (fun _ h9 => h9) rfl dX6_doHandOver_67 ?_
        refine lv_bipush (v := (21 : Int32)) hx hb dX6_doHandOver_70 (by decide) ?_
        refine lv_iload_n hx hb dX6_doHandOver_72 rfl (lv_at hl 1 rfl) ?_
        refine lv_iadd hx hb dX6_doHandOver_73 ?_
        refine top_i (x' := nI (21 + i)) (nI_add (21) (i)) ?_
        refine lv_aload_n hx hb dX6_doHandOver_74 rfl (lv_at hl 2 rfl) ?_
        refine va_get (v := .ref (A 1)) (C := RX6) (T := TX6) (N := 12) hx hb hts hinX6 hown hK hP 0 rfl rfl 1 (by decide) hf7 (fun _ h9 => h9) rfl dX6_doHandOver_75 ?_
        refine lv_bipush (v := (87 : Int32)) hx hb dX6_doHandOver_78 (by decide) ?_
        refine r_ild (k := 87) (n := 91) (f := z1) hx hb hK hP 1 0 rfl rfl (by omega) (by omega) rfl dX6_doHandOver_80 ?_
        refine lv_iconst (v := (2 : Int32)) hx hb dX6_doHandOver_81 (by decide) ?_
        refine lv_icmp_ne (tgt := 97) hx hb dX6_doHandOver_82 (by decide) (fun c_82 => ?_) (fun c_82 => ?_)
        · refine lv_iconst (v := (-1 : Int32)) hx hb dX6_doHandOver_97 (by decide) ?_
          refine r_ist (k := 21 + i) (n := 91) (f := z1) hx hb hK hP hD hS 1 0 rfl rfl (by omega) (by omega) rfl dX6_doHandOver_98 (fun H locs hP hD hS => ?_)
          have hP : va_P G vwCl (cat [[(A 0, .inr (6, [.int (M.1), .ref (A 1), .ref (A 2), .int (nI (M.2.2.2.1)), .ref (A 3), .int (nI (M.2.2.2.2.2.1)), .ref (A 4), .ref (A 5), .ref (A 6), .ref (A 7), .int (M.2.2.2.2.2.2.2.2.2.2.1), .int (M.2.2.2.2.2.2.2.2.2.2.2)]))], [(A 1, .inl (cyI, 91, .inl (upd z1 (21 + i) ((-1 : Int32)))))], [(A 2, .inl (cyI, 546, .inl (M.2.2.1)))], [(A 3, .inl (cyI, 60, .inl (M.2.2.2.2.1)))], [(A 4, .inl (cyI, 20, .inl (M.2.2.2.2.2.2.1)))], [(A 5, .inl (cyI, 6, .inl (M.2.2.2.2.2.2.2.1)))], [(A 6, .inl (cyI, 6, .inl (M.2.2.2.2.2.2.2.2.1)))], [(A 7, .inl (cyI, 6, .inl (M.2.2.2.2.2.2.2.2.2.1)))]]) H := hP
          have hD : va_D A9 (cat [[(A 0, .inr (6, [.int (M.1), .ref (A 1), .ref (A 2), .int (nI (M.2.2.2.1)), .ref (A 3), .int (nI (M.2.2.2.2.2.1)), .ref (A 4), .ref (A 5), .ref (A 6), .ref (A 7), .int (M.2.2.2.2.2.2.2.2.2.2.1), .int (M.2.2.2.2.2.2.2.2.2.2.2)]))], [(A 1, .inl (cyI, 91, .inl (upd z1 (21 + i) ((-1 : Int32)))))], [(A 2, .inl (cyI, 546, .inl (M.2.2.1)))], [(A 3, .inl (cyI, 60, .inl (M.2.2.2.2.1)))], [(A 4, .inl (cyI, 20, .inl (M.2.2.2.2.2.2.1)))], [(A 5, .inl (cyI, 6, .inl (M.2.2.2.2.2.2.2.1)))], [(A 6, .inl (cyI, 6, .inl (M.2.2.2.2.2.2.2.2.1)))], [(A 7, .inl (cyI, 6, .inl (M.2.2.2.2.2.2.2.2.2.1)))]]) := hD
          refine lv_iinc (v := nI (i + 1)) (lv' := [(2, .int (nI (i + 1))), (1, .int (nI (x + 1))), (0, .ref (A 0))]) hx hb dX6_doHandOver_99 hl (k := 1) rfl (nI_add _ _) (by decide) rfl (fun ls hl => ?_)
          refine lv_goto (tgt := 4) hx hb dX6_doHandOver_102 (by decide) ?_
          exact ih_4 (i + 1, upd z1 (21 + i) ((-1 : Int32)), x + 1) (by show (n - (i + 1)) < (n - i); omega) _ _ _ ⟨(show (i + 1) ≤ n from by omega), (show (upd z1 (21 + i) ((-1 : Int32))) 0 = nI n from by first | exact hz1 | (rw [pk_un (by omega)]; exact hz1)), (show ((upd z1 (21 + i) ((-1 : Int32))), (x + 1)) = itr (i + 1) hoStep (M.2.1, 0) from by show _ = hoStep i (itr i _ _); rw [← he]; first | (simp [hoStep, c_11, c_32, c_44, c_82]; done) | exact absurd c_44 c_82 | exact absurd c_82 c_44), hP, hD, hS, lv_sub hl [0, 1, 2] rfl⟩
        · refine lv_aload_n hx hb dX6_doHandOver_85 rfl (lv_at hl 2 rfl) ?_
          refine va_get (v := .ref (A 1)) (C := RX6) (T := TX6) (N := 12) hx hb hts hinX6 hown hK hP 0 rfl rfl 1 (by decide) hf7 (fun _ h9 => h9) rfl dX6_doHandOver_86 ?_
          refine lv_bipush (v := (41 : Int32)) hx hb dX6_doHandOver_89 (by decide) ?_
          refine lv_iload_n hx hb dX6_doHandOver_91 rfl (lv_at hl 1 rfl) ?_
          refine lv_iadd hx hb dX6_doHandOver_92 ?_
          refine top_i (x' := nI (41 + i)) (nI_add (41) (i)) ?_
          refine r_ild (k := 41 + i) (n := 91) (f := z1) hx hb hK hP 1 0 rfl rfl (by omega) (by omega) rfl dX6_doHandOver_93 ?_
          refine lv_goto (tgt := 98) hx hb dX6_doHandOver_94 (by decide) ?_
          refine r_ist (k := 21 + i) (n := 91) (f := z1) hx hb hK hP hD hS 1 0 rfl rfl (by omega) (by omega) rfl dX6_doHandOver_98 (fun H locs hP hD hS => ?_)
          have hP : va_P G vwCl (cat [[(A 0, .inr (6, [.int (M.1), .ref (A 1), .ref (A 2), .int (nI (M.2.2.2.1)), .ref (A 3), .int (nI (M.2.2.2.2.2.1)), .ref (A 4), .ref (A 5), .ref (A 6), .ref (A 7), .int (M.2.2.2.2.2.2.2.2.2.2.1), .int (M.2.2.2.2.2.2.2.2.2.2.2)]))], [(A 1, .inl (cyI, 91, .inl (upd z1 (21 + i) (z1 (41 + i)))))], [(A 2, .inl (cyI, 546, .inl (M.2.2.1)))], [(A 3, .inl (cyI, 60, .inl (M.2.2.2.2.1)))], [(A 4, .inl (cyI, 20, .inl (M.2.2.2.2.2.2.1)))], [(A 5, .inl (cyI, 6, .inl (M.2.2.2.2.2.2.2.1)))], [(A 6, .inl (cyI, 6, .inl (M.2.2.2.2.2.2.2.2.1)))], [(A 7, .inl (cyI, 6, .inl (M.2.2.2.2.2.2.2.2.2.1)))]]) H := hP
          have hD : va_D A9 (cat [[(A 0, .inr (6, [.int (M.1), .ref (A 1), .ref (A 2), .int (nI (M.2.2.2.1)), .ref (A 3), .int (nI (M.2.2.2.2.2.1)), .ref (A 4), .ref (A 5), .ref (A 6), .ref (A 7), .int (M.2.2.2.2.2.2.2.2.2.2.1), .int (M.2.2.2.2.2.2.2.2.2.2.2)]))], [(A 1, .inl (cyI, 91, .inl (upd z1 (21 + i) (z1 (41 + i)))))], [(A 2, .inl (cyI, 546, .inl (M.2.2.1)))], [(A 3, .inl (cyI, 60, .inl (M.2.2.2.2.1)))], [(A 4, .inl (cyI, 20, .inl (M.2.2.2.2.2.2.1)))], [(A 5, .inl (cyI, 6, .inl (M.2.2.2.2.2.2.2.1)))], [(A 6, .inl (cyI, 6, .inl (M.2.2.2.2.2.2.2.2.1)))], [(A 7, .inl (cyI, 6, .inl (M.2.2.2.2.2.2.2.2.2.1)))]]) := hD
          refine lv_iinc (v := nI (i + 1)) (lv' := [(2, .int (nI (i + 1))), (1, .int (nI (x + 1))), (0, .ref (A 0))]) hx hb dX6_doHandOver_99 hl (k := 1) rfl (nI_add _ _) (by decide) rfl (fun ls hl => ?_)
          refine lv_goto (tgt := 4) hx hb dX6_doHandOver_102 (by decide) ?_
          exact ih_4 (i + 1, upd z1 (21 + i) (z1 (41 + i)), x + 1) (by show (n - (i + 1)) < (n - i); omega) _ _ _ ⟨(show (i + 1) ≤ n from by omega), (show (upd z1 (21 + i) (z1 (41 + i))) 0 = nI n from by first | exact hz1 | (rw [pk_un (by omega)]; exact hz1)), (show ((upd z1 (21 + i) (z1 (41 + i))), (x + 1)) = itr (i + 1) hoStep (M.2.1, 0) from by show _ = hoStep i (itr i _ _); rw [← he]; first | (simp [hoStep, c_11, c_32, c_44, c_82]; done) | exact absurd c_44 c_82 | exact absurd c_82 c_44), hP, hD, hS, lv_sub hl [0, 1, 2] rfl⟩
      · refine lv_aload_n hx hb dX6_doHandOver_47 rfl (lv_at hl 2 rfl) ?_
        refine va_get (v := .ref (A 1)) (C := RX6) (T := TX6) (N := 12) hx hb hts hinX6 hown hK hP 0 rfl rfl 1 (by decide) hf7 (fun _ h9 => h9) rfl dX6_doHandOver_48 ?_
        refine lv_bipush (v := (21 : Int32)) hx hb dX6_doHandOver_51 (by decide) ?_
        refine lv_iload_n hx hb dX6_doHandOver_53 rfl (lv_at hl 0 rfl) ?_
        refine lv_iadd hx hb dX6_doHandOver_54 ?_
        refine top_i (x' := nI (21 + i)) (nI_add (21) (i)) ?_
        refine r_ild (k := 21 + i) (n := 91) (f := z1) hx hb hK hP 1 0 rfl rfl (by omega) (by omega) rfl dX6_doHandOver_55 ?_
        refine lv_if_lt (tgt := 63) hx hb dX6_doHandOver_56 (by decide) (fun c_56 => ?_) (fun c_56 => ?_)
        · refine lv_iconst (v := (0 : Int32)) hx hb dX6_doHandOver_63 (by decide) ?_
          refine lv_iadd hx hb dX6_doHandOver_64 ?_
          refine top_i (x' := nI (x + 0)) (nI_add (x) (0)) ?_
          refine lv_istore_n (lv' := [(1, .int (nI (x + 0))), (2, .int (nI (i))), (0, .ref (A 0))]) hx hb dX6_doHandOver_65 rfl hl (by decide) rfl (fun ls hl => ?_)
          refine lv_aload_n hx hb dX6_doHandOver_66 rfl (lv_at hl 2 rfl) ?_
          refine va_get (v := .ref (A 1)) (C := RX6) (T := TX6) (N := 12) hx hb hts hinX6 hown hK hP 0 rfl rfl 1 (by decide) hf7 (fun _ h9 => h9) rfl dX6_doHandOver_67 ?_
          refine lv_bipush (v := (21 : Int32)) hx hb dX6_doHandOver_70 (by decide) ?_
          refine lv_iload_n hx hb dX6_doHandOver_72 rfl (lv_at hl 1 rfl) ?_
          refine lv_iadd hx hb dX6_doHandOver_73 ?_
          refine top_i (x' := nI (21 + i)) (nI_add (21) (i)) ?_
          refine lv_aload_n hx hb dX6_doHandOver_74 rfl (lv_at hl 2 rfl) ?_
          refine va_get (v := .ref (A 1)) (C := RX6) (T := TX6) (N := 12) hx hb hts hinX6 hown hK hP 0 rfl rfl 1 (by decide) hf7 (fun _ h9 => h9) rfl dX6_doHandOver_75 ?_
          refine lv_bipush (v := (87 : Int32)) hx hb dX6_doHandOver_78 (by decide) ?_
          refine r_ild (k := 87) (n := 91) (f := z1) hx hb hK hP 1 0 rfl rfl (by omega) (by omega) rfl dX6_doHandOver_80 ?_
          refine lv_iconst (v := (2 : Int32)) hx hb dX6_doHandOver_81 (by decide) ?_
          refine lv_icmp_ne (tgt := 97) hx hb dX6_doHandOver_82 (by decide) (fun c_82 => ?_) (fun c_82 => ?_)
          · refine lv_iconst (v := (-1 : Int32)) hx hb dX6_doHandOver_97 (by decide) ?_
            refine r_ist (k := 21 + i) (n := 91) (f := z1) hx hb hK hP hD hS 1 0 rfl rfl (by omega) (by omega) rfl dX6_doHandOver_98 (fun H locs hP hD hS => ?_)
            have hP : va_P G vwCl (cat [[(A 0, .inr (6, [.int (M.1), .ref (A 1), .ref (A 2), .int (nI (M.2.2.2.1)), .ref (A 3), .int (nI (M.2.2.2.2.2.1)), .ref (A 4), .ref (A 5), .ref (A 6), .ref (A 7), .int (M.2.2.2.2.2.2.2.2.2.2.1), .int (M.2.2.2.2.2.2.2.2.2.2.2)]))], [(A 1, .inl (cyI, 91, .inl (upd z1 (21 + i) ((-1 : Int32)))))], [(A 2, .inl (cyI, 546, .inl (M.2.2.1)))], [(A 3, .inl (cyI, 60, .inl (M.2.2.2.2.1)))], [(A 4, .inl (cyI, 20, .inl (M.2.2.2.2.2.2.1)))], [(A 5, .inl (cyI, 6, .inl (M.2.2.2.2.2.2.2.1)))], [(A 6, .inl (cyI, 6, .inl (M.2.2.2.2.2.2.2.2.1)))], [(A 7, .inl (cyI, 6, .inl (M.2.2.2.2.2.2.2.2.2.1)))]]) H := hP
            have hD : va_D A9 (cat [[(A 0, .inr (6, [.int (M.1), .ref (A 1), .ref (A 2), .int (nI (M.2.2.2.1)), .ref (A 3), .int (nI (M.2.2.2.2.2.1)), .ref (A 4), .ref (A 5), .ref (A 6), .ref (A 7), .int (M.2.2.2.2.2.2.2.2.2.2.1), .int (M.2.2.2.2.2.2.2.2.2.2.2)]))], [(A 1, .inl (cyI, 91, .inl (upd z1 (21 + i) ((-1 : Int32)))))], [(A 2, .inl (cyI, 546, .inl (M.2.2.1)))], [(A 3, .inl (cyI, 60, .inl (M.2.2.2.2.1)))], [(A 4, .inl (cyI, 20, .inl (M.2.2.2.2.2.2.1)))], [(A 5, .inl (cyI, 6, .inl (M.2.2.2.2.2.2.2.1)))], [(A 6, .inl (cyI, 6, .inl (M.2.2.2.2.2.2.2.2.1)))], [(A 7, .inl (cyI, 6, .inl (M.2.2.2.2.2.2.2.2.2.1)))]]) := hD
            refine lv_iinc (v := nI (i + 1)) (lv' := [(2, .int (nI (i + 1))), (1, .int (nI (x + 0))), (0, .ref (A 0))]) hx hb dX6_doHandOver_99 hl (k := 1) rfl (nI_add _ _) (by decide) rfl (fun ls hl => ?_)
            refine lv_goto (tgt := 4) hx hb dX6_doHandOver_102 (by decide) ?_
            exact ih_4 (i + 1, upd z1 (21 + i) ((-1 : Int32)), x + 0) (by show (n - (i + 1)) < (n - i); omega) _ _ _ ⟨(show (i + 1) ≤ n from by omega), (show (upd z1 (21 + i) ((-1 : Int32))) 0 = nI n from by first | exact hz1 | (rw [pk_un (by omega)]; exact hz1)), (show ((upd z1 (21 + i) ((-1 : Int32))), (x + 0)) = itr (i + 1) hoStep (M.2.1, 0) from by show _ = hoStep i (itr i _ _); rw [← he]; first | (simp [hoStep, c_11, c_32, c_44, c_56, c_82]; done) | exact absurd c_44 c_82 | exact absurd c_82 c_44), hP, hD, hS, lv_sub hl [0, 1, 2] rfl⟩
          · refine lv_aload_n hx hb dX6_doHandOver_85 rfl (lv_at hl 2 rfl) ?_
            refine va_get (v := .ref (A 1)) (C := RX6) (T := TX6) (N := 12) hx hb hts hinX6 hown hK hP 0 rfl rfl 1 (by decide) hf7 (fun _ h9 => h9) rfl dX6_doHandOver_86 ?_
            refine lv_bipush (v := (41 : Int32)) hx hb dX6_doHandOver_89 (by decide) ?_
            refine lv_iload_n hx hb dX6_doHandOver_91 rfl (lv_at hl 1 rfl) ?_
            refine lv_iadd hx hb dX6_doHandOver_92 ?_
            refine top_i (x' := nI (41 + i)) (nI_add (41) (i)) ?_
            refine r_ild (k := 41 + i) (n := 91) (f := z1) hx hb hK hP 1 0 rfl rfl (by omega) (by omega) rfl dX6_doHandOver_93 ?_
            refine lv_goto (tgt := 98) hx hb dX6_doHandOver_94 (by decide) ?_
            refine r_ist (k := 21 + i) (n := 91) (f := z1) hx hb hK hP hD hS 1 0 rfl rfl (by omega) (by omega) rfl dX6_doHandOver_98 (fun H locs hP hD hS => ?_)
            have hP : va_P G vwCl (cat [[(A 0, .inr (6, [.int (M.1), .ref (A 1), .ref (A 2), .int (nI (M.2.2.2.1)), .ref (A 3), .int (nI (M.2.2.2.2.2.1)), .ref (A 4), .ref (A 5), .ref (A 6), .ref (A 7), .int (M.2.2.2.2.2.2.2.2.2.2.1), .int (M.2.2.2.2.2.2.2.2.2.2.2)]))], [(A 1, .inl (cyI, 91, .inl (upd z1 (21 + i) (z1 (41 + i)))))], [(A 2, .inl (cyI, 546, .inl (M.2.2.1)))], [(A 3, .inl (cyI, 60, .inl (M.2.2.2.2.1)))], [(A 4, .inl (cyI, 20, .inl (M.2.2.2.2.2.2.1)))], [(A 5, .inl (cyI, 6, .inl (M.2.2.2.2.2.2.2.1)))], [(A 6, .inl (cyI, 6, .inl (M.2.2.2.2.2.2.2.2.1)))], [(A 7, .inl (cyI, 6, .inl (M.2.2.2.2.2.2.2.2.2.1)))]]) H := hP
            have hD : va_D A9 (cat [[(A 0, .inr (6, [.int (M.1), .ref (A 1), .ref (A 2), .int (nI (M.2.2.2.1)), .ref (A 3), .int (nI (M.2.2.2.2.2.1)), .ref (A 4), .ref (A 5), .ref (A 6), .ref (A 7), .int (M.2.2.2.2.2.2.2.2.2.2.1), .int (M.2.2.2.2.2.2.2.2.2.2.2)]))], [(A 1, .inl (cyI, 91, .inl (upd z1 (21 + i) (z1 (41 + i)))))], [(A 2, .inl (cyI, 546, .inl (M.2.2.1)))], [(A 3, .inl (cyI, 60, .inl (M.2.2.2.2.1)))], [(A 4, .inl (cyI, 20, .inl (M.2.2.2.2.2.2.1)))], [(A 5, .inl (cyI, 6, .inl (M.2.2.2.2.2.2.2.1)))], [(A 6, .inl (cyI, 6, .inl (M.2.2.2.2.2.2.2.2.1)))], [(A 7, .inl (cyI, 6, .inl (M.2.2.2.2.2.2.2.2.2.1)))]]) := hD
            refine lv_iinc (v := nI (i + 1)) (lv' := [(2, .int (nI (i + 1))), (1, .int (nI (x + 0))), (0, .ref (A 0))]) hx hb dX6_doHandOver_99 hl (k := 1) rfl (nI_add _ _) (by decide) rfl (fun ls hl => ?_)
            refine lv_goto (tgt := 4) hx hb dX6_doHandOver_102 (by decide) ?_
            exact ih_4 (i + 1, upd z1 (21 + i) (z1 (41 + i)), x + 0) (by show (n - (i + 1)) < (n - i); omega) _ _ _ ⟨(show (i + 1) ≤ n from by omega), (show (upd z1 (21 + i) (z1 (41 + i))) 0 = nI n from by first | exact hz1 | (rw [pk_un (by omega)]; exact hz1)), (show ((upd z1 (21 + i) (z1 (41 + i))), (x + 0)) = itr (i + 1) hoStep (M.2.1, 0) from by show _ = hoStep i (itr i _ _); rw [← he]; first | (simp [hoStep, c_11, c_32, c_44, c_56, c_82]; done) | exact absurd c_44 c_82 | exact absurd c_82 c_44), hP, hD, hS, lv_sub hl [0, 1, 2] rfl⟩
        · refine lv_iconst (v := (1 : Int32)) hx hb dX6_doHandOver_59 (by decide) ?_
          refine lv_goto (tgt := 64) hx hb dX6_doHandOver_60 (by decide) ?_
          refine lv_iadd hx hb dX6_doHandOver_64 ?_
          refine top_i (x' := nI (x + 1)) (nI_add (x) (1)) ?_
          refine lv_istore_n (lv' := [(1, .int (nI (x + 1))), (2, .int (nI (i))), (0, .ref (A 0))]) hx hb dX6_doHandOver_65 rfl hl (by decide) rfl (fun ls hl => ?_)
          refine lv_aload_n hx hb dX6_doHandOver_66 rfl (lv_at hl 2 rfl) ?_
          refine va_get (v := .ref (A 1)) (C := RX6) (T := TX6) (N := 12) hx hb hts hinX6 hown hK hP 0 rfl rfl 1 (by decide) hf7 (fun _ h9 => h9) rfl dX6_doHandOver_67 ?_
          refine lv_bipush (v := (21 : Int32)) hx hb dX6_doHandOver_70 (by decide) ?_
          refine lv_iload_n hx hb dX6_doHandOver_72 rfl (lv_at hl 1 rfl) ?_
          refine lv_iadd hx hb dX6_doHandOver_73 ?_
          refine top_i (x' := nI (21 + i)) (nI_add (21) (i)) ?_
          refine lv_aload_n hx hb dX6_doHandOver_74 rfl (lv_at hl 2 rfl) ?_
          refine va_get (v := .ref (A 1)) (C := RX6) (T := TX6) (N := 12) hx hb hts hinX6 hown hK hP 0 rfl rfl 1 (by decide) hf7 (fun _ h9 => h9) rfl dX6_doHandOver_75 ?_
          refine lv_bipush (v := (87 : Int32)) hx hb dX6_doHandOver_78 (by decide) ?_
          refine r_ild (k := 87) (n := 91) (f := z1) hx hb hK hP 1 0 rfl rfl (by omega) (by omega) rfl dX6_doHandOver_80 ?_
          refine lv_iconst (v := (2 : Int32)) hx hb dX6_doHandOver_81 (by decide) ?_
          refine lv_icmp_ne (tgt := 97) hx hb dX6_doHandOver_82 (by decide) (fun c_82 => ?_) (fun c_82 => ?_)
          · refine lv_iconst (v := (-1 : Int32)) hx hb dX6_doHandOver_97 (by decide) ?_
            refine r_ist (k := 21 + i) (n := 91) (f := z1) hx hb hK hP hD hS 1 0 rfl rfl (by omega) (by omega) rfl dX6_doHandOver_98 (fun H locs hP hD hS => ?_)
            have hP : va_P G vwCl (cat [[(A 0, .inr (6, [.int (M.1), .ref (A 1), .ref (A 2), .int (nI (M.2.2.2.1)), .ref (A 3), .int (nI (M.2.2.2.2.2.1)), .ref (A 4), .ref (A 5), .ref (A 6), .ref (A 7), .int (M.2.2.2.2.2.2.2.2.2.2.1), .int (M.2.2.2.2.2.2.2.2.2.2.2)]))], [(A 1, .inl (cyI, 91, .inl (upd z1 (21 + i) ((-1 : Int32)))))], [(A 2, .inl (cyI, 546, .inl (M.2.2.1)))], [(A 3, .inl (cyI, 60, .inl (M.2.2.2.2.1)))], [(A 4, .inl (cyI, 20, .inl (M.2.2.2.2.2.2.1)))], [(A 5, .inl (cyI, 6, .inl (M.2.2.2.2.2.2.2.1)))], [(A 6, .inl (cyI, 6, .inl (M.2.2.2.2.2.2.2.2.1)))], [(A 7, .inl (cyI, 6, .inl (M.2.2.2.2.2.2.2.2.2.1)))]]) H := hP
            have hD : va_D A9 (cat [[(A 0, .inr (6, [.int (M.1), .ref (A 1), .ref (A 2), .int (nI (M.2.2.2.1)), .ref (A 3), .int (nI (M.2.2.2.2.2.1)), .ref (A 4), .ref (A 5), .ref (A 6), .ref (A 7), .int (M.2.2.2.2.2.2.2.2.2.2.1), .int (M.2.2.2.2.2.2.2.2.2.2.2)]))], [(A 1, .inl (cyI, 91, .inl (upd z1 (21 + i) ((-1 : Int32)))))], [(A 2, .inl (cyI, 546, .inl (M.2.2.1)))], [(A 3, .inl (cyI, 60, .inl (M.2.2.2.2.1)))], [(A 4, .inl (cyI, 20, .inl (M.2.2.2.2.2.2.1)))], [(A 5, .inl (cyI, 6, .inl (M.2.2.2.2.2.2.2.1)))], [(A 6, .inl (cyI, 6, .inl (M.2.2.2.2.2.2.2.2.1)))], [(A 7, .inl (cyI, 6, .inl (M.2.2.2.2.2.2.2.2.2.1)))]]) := hD
            refine lv_iinc (v := nI (i + 1)) (lv' := [(2, .int (nI (i + 1))), (1, .int (nI (x + 1))), (0, .ref (A 0))]) hx hb dX6_doHandOver_99 hl (k := 1) rfl (nI_add _ _) (by decide) rfl (fun ls hl => ?_)
            refine lv_goto (tgt := 4) hx hb dX6_doHandOver_102 (by decide) ?_
            exact ih_4 (i + 1, upd z1 (21 + i) ((-1 : Int32)), x + 1) (by show (n - (i + 1)) < (n - i); omega) _ _ _ ⟨(show (i + 1) ≤ n from by omega), (show (upd z1 (21 + i) ((-1 : Int32))) 0 = nI n from by first | exact hz1 | (rw [pk_un (by omega)]; exact hz1)), (show ((upd z1 (21 + i) ((-1 : Int32))), (x + 1)) = itr (i + 1) hoStep (M.2.1, 0) from by show _ = hoStep i (itr i _ _); rw [← he]; first | (simp [hoStep, c_11, c_32, c_44, c_56, c_82]; done) | exact absurd c_44 c_82 | exact absurd c_82 c_44), hP, hD, hS, lv_sub hl [0, 1, 2] rfl⟩
          · refine lv_aload_n hx hb dX6_doHandOver_85 rfl (lv_at hl 2 rfl) ?_
            refine va_get (v := .ref (A 1)) (C := RX6) (T := TX6) (N := 12) hx hb hts hinX6 hown hK hP 0 rfl rfl 1 (by decide) hf7 (fun _ h9 => h9) rfl dX6_doHandOver_86 ?_
            refine lv_bipush (v := (41 : Int32)) hx hb dX6_doHandOver_89 (by decide) ?_
            refine lv_iload_n hx hb dX6_doHandOver_91 rfl (lv_at hl 1 rfl) ?_
            refine lv_iadd hx hb dX6_doHandOver_92 ?_
            refine top_i (x' := nI (41 + i)) (nI_add (41) (i)) ?_
            refine r_ild (k := 41 + i) (n := 91) (f := z1) hx hb hK hP 1 0 rfl rfl (by omega) (by omega) rfl dX6_doHandOver_93 ?_
            refine lv_goto (tgt := 98) hx hb dX6_doHandOver_94 (by decide) ?_
            refine r_ist (k := 21 + i) (n := 91) (f := z1) hx hb hK hP hD hS 1 0 rfl rfl (by omega) (by omega) rfl dX6_doHandOver_98 (fun H locs hP hD hS => ?_)
            have hP : va_P G vwCl (cat [[(A 0, .inr (6, [.int (M.1), .ref (A 1), .ref (A 2), .int (nI (M.2.2.2.1)), .ref (A 3), .int (nI (M.2.2.2.2.2.1)), .ref (A 4), .ref (A 5), .ref (A 6), .ref (A 7), .int (M.2.2.2.2.2.2.2.2.2.2.1), .int (M.2.2.2.2.2.2.2.2.2.2.2)]))], [(A 1, .inl (cyI, 91, .inl (upd z1 (21 + i) (z1 (41 + i)))))], [(A 2, .inl (cyI, 546, .inl (M.2.2.1)))], [(A 3, .inl (cyI, 60, .inl (M.2.2.2.2.1)))], [(A 4, .inl (cyI, 20, .inl (M.2.2.2.2.2.2.1)))], [(A 5, .inl (cyI, 6, .inl (M.2.2.2.2.2.2.2.1)))], [(A 6, .inl (cyI, 6, .inl (M.2.2.2.2.2.2.2.2.1)))], [(A 7, .inl (cyI, 6, .inl (M.2.2.2.2.2.2.2.2.2.1)))]]) H := hP
            have hD : va_D A9 (cat [[(A 0, .inr (6, [.int (M.1), .ref (A 1), .ref (A 2), .int (nI (M.2.2.2.1)), .ref (A 3), .int (nI (M.2.2.2.2.2.1)), .ref (A 4), .ref (A 5), .ref (A 6), .ref (A 7), .int (M.2.2.2.2.2.2.2.2.2.2.1), .int (M.2.2.2.2.2.2.2.2.2.2.2)]))], [(A 1, .inl (cyI, 91, .inl (upd z1 (21 + i) (z1 (41 + i)))))], [(A 2, .inl (cyI, 546, .inl (M.2.2.1)))], [(A 3, .inl (cyI, 60, .inl (M.2.2.2.2.1)))], [(A 4, .inl (cyI, 20, .inl (M.2.2.2.2.2.2.1)))], [(A 5, .inl (cyI, 6, .inl (M.2.2.2.2.2.2.2.1)))], [(A 6, .inl (cyI, 6, .inl (M.2.2.2.2.2.2.2.2.1)))], [(A 7, .inl (cyI, 6, .inl (M.2.2.2.2.2.2.2.2.2.1)))]]) := hD
            refine lv_iinc (v := nI (i + 1)) (lv' := [(2, .int (nI (i + 1))), (1, .int (nI (x + 1))), (0, .ref (A 0))]) hx hb dX6_doHandOver_99 hl (k := 1) rfl (nI_add _ _) (by decide) rfl (fun ls hl => ?_)
            refine lv_goto (tgt := 4) hx hb dX6_doHandOver_102 (by decide) ?_
            exact ih_4 (i + 1, upd z1 (21 + i) (z1 (41 + i)), x + 1) (by show (n - (i + 1)) < (n - i); omega) _ _ _ ⟨(show (i + 1) ≤ n from by omega), (show (upd z1 (21 + i) (z1 (41 + i))) 0 = nI n from by first | exact hz1 | (rw [pk_un (by omega)]; exact hz1)), (show ((upd z1 (21 + i) (z1 (41 + i))), (x + 1)) = itr (i + 1) hoStep (M.2.1, 0) from by show _ = hoStep i (itr i _ _); rw [← he]; first | (simp [hoStep, c_11, c_32, c_44, c_56, c_82]; done) | exact absurd c_44 c_82 | exact absurd c_82 c_44), hP, hD, hS, lv_sub hl [0, 1, 2] rfl⟩
abbrev rm_X6_doCallOff : Room := { frames := 0, cells := 0, slots := 0, locals := 0 }
set_option maxHeartbeats 4000000 in
set_option maxRecDepth 100000 in
theorem c_X6_doCallOff (l : Launch) (G : va_G) (cyI cyO : ClassId) (A : Nat → Nat) (M : MS) (n : Nat) (hM : MI M.2.1 n) : CI l G (TY cyI cyO) yX6_doCallOff wsX6_doCallOff rm_X6_doCallOff [.ref (A 0)] [mdW cyI A M] (nI ((coAll M.2.1 n).2)) [mdW cyI A ((M.1, upd (coAll M.2.1 n).1 87 0, M.2.2.1, M.2.2.2.1, M.2.2.2.2.1, M.2.2.2.2.2.1, M.2.2.2.2.2.2.1, M.2.2.2.2.2.2.2.1, M.2.2.2.2.2.2.2.2.1, M.2.2.2.2.2.2.2.2.2.1, M.2.2.2.2.2.2.2.2.2.2.1, M.2.2.2.2.2.2.2.2.2.2.2))] := by
  refine wk_I (cc := cX6_doCallOff) (maxL := 3) (ret := (some .int)) (by decide) rfl (Nat.le_of_ble_eq_true rfl) ?_
  intro p9 e9 s9 m9 b9 t9 c9 A9 ls hx hb hr hts hown hlocks hml hK hA hD hP hl hS hnm
  have hl : lv_has ls 3 [(0, .ref (A 0))] := hl
  have hinX6 : ∀ w ∈ wsX60, w ∈ wsX6_doCallOff := by decide +kernel
  have hf7 := hts (.fieldLink RX6 7 "DoorstepRoundsModel" "z" "[I") (by decide +kernel)
  have hz : M.2.1 0 = nI n := hM.1
  have hn : n ≤ 20 := hM.2.1
  have hWk := hM.2.2.1
  have hOw := hM.2.2.2
  have hP : va_P G vwCl (cat [[(A 0, .inr (6, [.int (M.1), .ref (A 1), .ref (A 2), .int (nI (M.2.2.2.1)), .ref (A 3), .int (nI (M.2.2.2.2.2.1)), .ref (A 4), .ref (A 5), .ref (A 6), .ref (A 7), .int (M.2.2.2.2.2.2.2.2.2.2.1), .int (M.2.2.2.2.2.2.2.2.2.2.2)]))], [(A 1, .inl (cyI, 91, .inl (M.2.1)))], [(A 2, .inl (cyI, 546, .inl (M.2.2.1)))], [(A 3, .inl (cyI, 60, .inl (M.2.2.2.2.1)))], [(A 4, .inl (cyI, 20, .inl (M.2.2.2.2.2.2.1)))], [(A 5, .inl (cyI, 6, .inl (M.2.2.2.2.2.2.2.1)))], [(A 6, .inl (cyI, 6, .inl (M.2.2.2.2.2.2.2.2.1)))], [(A 7, .inl (cyI, 6, .inl (M.2.2.2.2.2.2.2.2.2.1)))]]) s9.heap := hP
  have hD : va_D A9 (cat [[(A 0, .inr (6, [.int (M.1), .ref (A 1), .ref (A 2), .int (nI (M.2.2.2.1)), .ref (A 3), .int (nI (M.2.2.2.2.2.1)), .ref (A 4), .ref (A 5), .ref (A 6), .ref (A 7), .int (M.2.2.2.2.2.2.2.2.2.2.1), .int (M.2.2.2.2.2.2.2.2.2.2.2)]))], [(A 1, .inl (cyI, 91, .inl (M.2.1)))], [(A 2, .inl (cyI, 546, .inl (M.2.2.1)))], [(A 3, .inl (cyI, 60, .inl (M.2.2.2.2.1)))], [(A 4, .inl (cyI, 20, .inl (M.2.2.2.2.2.2.1)))], [(A 5, .inl (cyI, 6, .inl (M.2.2.2.2.2.2.2.1)))], [(A 6, .inl (cyI, 6, .inl (M.2.2.2.2.2.2.2.2.1)))], [(A 7, .inl (cyI, 6, .inl (M.2.2.2.2.2.2.2.2.2.1)))]]) := hD
  refine lv_iconst (v := (0 : Int32)) hx hb dX6_doCallOff_0 (by decide) ?_
  refine lv_istore_n (lv' := [(1, .int ((0 : Int32))), (0, .ref (A 0))]) hx hb dX6_doCallOff_1 rfl hl (by decide) rfl (fun ls hl => ?_)
  refine lv_iconst (v := (0 : Int32)) hx hb dX6_doCallOff_2 (by decide) ?_
  refine lv_istore_n (lv' := [(2, .int ((0 : Int32))), (1, .int ((0 : Int32))), (0, .ref (A 0))]) hx hb dX6_doCallOff_3 rfl hl (by decide) rfl (fun ls hl => ?_)
  refine W_loop (α := Nat × (Nat → Int32) × Nat) (I := fun a9 H locs ls => (a9.1 ≤ n) ∧ (a9.2.1 0 = nI n) ∧ ((a9.2.1, a9.2.2) = itr a9.1 coStep (M.2.1, 0)) ∧ va_P G vwCl (cat [[(A 0, .inr (6, [.int (M.1), .ref (A 1), .ref (A 2), .int (nI (M.2.2.2.1)), .ref (A 3), .int (nI (M.2.2.2.2.2.1)), .ref (A 4), .ref (A 5), .ref (A 6), .ref (A 7), .int (M.2.2.2.2.2.2.2.2.2.2.1), .int (M.2.2.2.2.2.2.2.2.2.2.2)]))], [(A 1, .inl (cyI, 91, .inl (a9.2.1)))], [(A 2, .inl (cyI, 546, .inl (M.2.2.1)))], [(A 3, .inl (cyI, 60, .inl (M.2.2.2.2.1)))], [(A 4, .inl (cyI, 20, .inl (M.2.2.2.2.2.2.1)))], [(A 5, .inl (cyI, 6, .inl (M.2.2.2.2.2.2.2.1)))], [(A 6, .inl (cyI, 6, .inl (M.2.2.2.2.2.2.2.2.1)))], [(A 7, .inl (cyI, 6, .inl (M.2.2.2.2.2.2.2.2.2.1)))]]) H ∧ va_D A9 (cat [[(A 0, .inr (6, [.int (M.1), .ref (A 1), .ref (A 2), .int (nI (M.2.2.2.1)), .ref (A 3), .int (nI (M.2.2.2.2.2.1)), .ref (A 4), .ref (A 5), .ref (A 6), .ref (A 7), .int (M.2.2.2.2.2.2.2.2.2.2.1), .int (M.2.2.2.2.2.2.2.2.2.2.2)]))], [(A 1, .inl (cyI, 91, .inl (a9.2.1)))], [(A 2, .inl (cyI, 546, .inl (M.2.2.1)))], [(A 3, .inl (cyI, 60, .inl (M.2.2.2.2.1)))], [(A 4, .inl (cyI, 20, .inl (M.2.2.2.2.2.2.1)))], [(A 5, .inl (cyI, 6, .inl (M.2.2.2.2.2.2.2.1)))], [(A 6, .inl (cyI, 6, .inl (M.2.2.2.2.2.2.2.2.1)))], [(A 7, .inl (cyI, 6, .inl (M.2.2.2.2.2.2.2.2.2.1)))]]) ∧ va_S A9 s9.heap H locs ∧ lv_has ls 3 [(2, .int (nI (a9.1))), (1, .int (nI (a9.2.2))), (0, .ref (A 0))]) (μ := fun a9 => n - a9.1) (st := fun a9 => []) ?_ (0, M.2.1, 0) _ _ _ ⟨(show 0 ≤ n from by omega), (show M.2.1 0 = nI n from hz), (show (M.2.1, 0) = itr 0 coStep (M.2.1, 0) from rfl), hP, hD, hS, lv_sub hl [0, 1, 2] rfl⟩
  intro a9 ih_4 H locs ls hI
  obtain ⟨i, z1, x⟩ := a9
  obtain ⟨hi9, hz19, he9, hP9, hD9, hS9, hl9⟩ := hI
  have hi : i ≤ n := hi9
  have hz1 : z1 0 = nI n := hz19
  have he : (z1, x) = itr i coStep (M.2.1, 0) := he9
  have hP : va_P G vwCl (cat [[(A 0, .inr (6, [.int (M.1), .ref (A 1), .ref (A 2), .int (nI (M.2.2.2.1)), .ref (A 3), .int (nI (M.2.2.2.2.2.1)), .ref (A 4), .ref (A 5), .ref (A 6), .ref (A 7), .int (M.2.2.2.2.2.2.2.2.2.2.1), .int (M.2.2.2.2.2.2.2.2.2.2.2)]))], [(A 1, .inl (cyI, 91, .inl (z1)))], [(A 2, .inl (cyI, 546, .inl (M.2.2.1)))], [(A 3, .inl (cyI, 60, .inl (M.2.2.2.2.1)))], [(A 4, .inl (cyI, 20, .inl (M.2.2.2.2.2.2.1)))], [(A 5, .inl (cyI, 6, .inl (M.2.2.2.2.2.2.2.1)))], [(A 6, .inl (cyI, 6, .inl (M.2.2.2.2.2.2.2.2.1)))], [(A 7, .inl (cyI, 6, .inl (M.2.2.2.2.2.2.2.2.2.1)))]]) H := hP9
  have hD : va_D A9 (cat [[(A 0, .inr (6, [.int (M.1), .ref (A 1), .ref (A 2), .int (nI (M.2.2.2.1)), .ref (A 3), .int (nI (M.2.2.2.2.2.1)), .ref (A 4), .ref (A 5), .ref (A 6), .ref (A 7), .int (M.2.2.2.2.2.2.2.2.2.2.1), .int (M.2.2.2.2.2.2.2.2.2.2.2)]))], [(A 1, .inl (cyI, 91, .inl (z1)))], [(A 2, .inl (cyI, 546, .inl (M.2.2.1)))], [(A 3, .inl (cyI, 60, .inl (M.2.2.2.2.1)))], [(A 4, .inl (cyI, 20, .inl (M.2.2.2.2.2.2.1)))], [(A 5, .inl (cyI, 6, .inl (M.2.2.2.2.2.2.2.1)))], [(A 6, .inl (cyI, 6, .inl (M.2.2.2.2.2.2.2.2.1)))], [(A 7, .inl (cyI, 6, .inl (M.2.2.2.2.2.2.2.2.2.1)))]]) := hD9
  have hS := hS9
  have hl : lv_has ls 3 [(2, .int (nI (i))), (1, .int (nI (x))), (0, .ref (A 0))] := hl9
  clear hi9 hz19 he9 hP9 hD9 hS9 hl9
  refine lv_iload_n hx hb dX6_doCallOff_4 rfl (lv_at hl 0 rfl) ?_
  refine lv_aload_n hx hb dX6_doCallOff_5 rfl (lv_at hl 2 rfl) ?_
  refine va_get (v := .ref (A 1)) (C := RX6) (T := TX6) (N := 12) hx hb hts hinX6 hown hK hP 0 rfl rfl 1 (by decide) hf7 (fun _ h9 => h9) rfl dX6_doCallOff_6 ?_
  refine lv_iconst (v := (0 : Int32)) hx hb dX6_doCallOff_9 (by decide) ?_
  refine r_ild (k := 0) (n := 91) (f := z1) hx hb hK hP 1 0 rfl rfl (by omega) (by omega) rfl dX6_doCallOff_10 ?_
  refine top_i (x' := nI (n)) (hz1) ?_
  refine lv_icmp_ge (tgt := 67) hx hb dX6_doCallOff_11 (by decide) (fun c_11 => ?_) (fun c_11 => ?_)
  · have c_11 : (n) ≤ (i) := (nI_leI (a := n) (b := i) (by omega) (by omega)).mp c_11
    obtain rfl : n = i := by omega
    have e1 : z1 = (coAll M.2.1 n).1 := congrArg Prod.fst he
    have e2 : x = (coAll M.2.1 n).2 := congrArg Prod.snd he
    subst e1 e2
    refine lv_aload_n hx hb dX6_doCallOff_67 rfl (lv_at hl 2 rfl) ?_
    refine va_get (v := .ref (A 1)) (C := RX6) (T := TX6) (N := 12) hx hb hts hinX6 hown hK hP 0 rfl rfl 1 (by decide) hf7 (fun _ h9 => h9) rfl dX6_doCallOff_68 ?_
    refine lv_bipush (v := (87 : Int32)) hx hb dX6_doCallOff_71 (by decide) ?_
    refine lv_iconst (v := (0 : Int32)) hx hb dX6_doCallOff_73 (by decide) ?_
    refine r_ist (k := 87) (n := 91) (f := (coAll M.2.1 n).1) hx hb hK hP hD hS 1 0 rfl rfl (by omega) (by omega) rfl dX6_doCallOff_74 (fun H locs hP hD hS => ?_)
    have hP : va_P G vwCl (cat [[(A 0, .inr (6, [.int (M.1), .ref (A 1), .ref (A 2), .int (nI (M.2.2.2.1)), .ref (A 3), .int (nI (M.2.2.2.2.2.1)), .ref (A 4), .ref (A 5), .ref (A 6), .ref (A 7), .int (M.2.2.2.2.2.2.2.2.2.2.1), .int (M.2.2.2.2.2.2.2.2.2.2.2)]))], [(A 1, .inl (cyI, 91, .inl (upd ((coAll M.2.1 n).1) 87 ((0 : Int32)))))], [(A 2, .inl (cyI, 546, .inl (M.2.2.1)))], [(A 3, .inl (cyI, 60, .inl (M.2.2.2.2.1)))], [(A 4, .inl (cyI, 20, .inl (M.2.2.2.2.2.2.1)))], [(A 5, .inl (cyI, 6, .inl (M.2.2.2.2.2.2.2.1)))], [(A 6, .inl (cyI, 6, .inl (M.2.2.2.2.2.2.2.2.1)))], [(A 7, .inl (cyI, 6, .inl (M.2.2.2.2.2.2.2.2.2.1)))]]) H := hP
    have hD : va_D A9 (cat [[(A 0, .inr (6, [.int (M.1), .ref (A 1), .ref (A 2), .int (nI (M.2.2.2.1)), .ref (A 3), .int (nI (M.2.2.2.2.2.1)), .ref (A 4), .ref (A 5), .ref (A 6), .ref (A 7), .int (M.2.2.2.2.2.2.2.2.2.2.1), .int (M.2.2.2.2.2.2.2.2.2.2.2)]))], [(A 1, .inl (cyI, 91, .inl (upd ((coAll M.2.1 n).1) 87 ((0 : Int32)))))], [(A 2, .inl (cyI, 546, .inl (M.2.2.1)))], [(A 3, .inl (cyI, 60, .inl (M.2.2.2.2.1)))], [(A 4, .inl (cyI, 20, .inl (M.2.2.2.2.2.2.1)))], [(A 5, .inl (cyI, 6, .inl (M.2.2.2.2.2.2.2.1)))], [(A 6, .inl (cyI, 6, .inl (M.2.2.2.2.2.2.2.2.1)))], [(A 7, .inl (cyI, 6, .inl (M.2.2.2.2.2.2.2.2.2.1)))]]) := hD
    refine lv_iload_n hx hb dX6_doCallOff_75 rfl (lv_at hl 1 rfl) ?_
    have hP : va_P G vwCl (cat [mdW cyI A ((M.1, upd (coAll M.2.1 n).1 87 0, M.2.2.1, M.2.2.2.1, M.2.2.2.2.1, M.2.2.2.2.2.1, M.2.2.2.2.2.2.1, M.2.2.2.2.2.2.2.1, M.2.2.2.2.2.2.2.2.1, M.2.2.2.2.2.2.2.2.2.1, M.2.2.2.2.2.2.2.2.2.2.1, M.2.2.2.2.2.2.2.2.2.2.2))]) H := hP
    have hD : va_D A9 (cat [mdW cyI A ((M.1, upd (coAll M.2.1 n).1 87 0, M.2.2.1, M.2.2.2.1, M.2.2.2.2.1, M.2.2.2.2.2.1, M.2.2.2.2.2.2.1, M.2.2.2.2.2.2.2.1, M.2.2.2.2.2.2.2.2.1, M.2.2.2.2.2.2.2.2.2.1, M.2.2.2.2.2.2.2.2.2.2.1, M.2.2.2.2.2.2.2.2.2.2.2))]) := hD
    exact end_i hx hb hr hlocks hK hP hD hS (rfl) dX6_doCallOff_76
  · have c_11 : ¬ (n) ≤ (i) := fun h9 => c_11 ((nI_leI (a := n) (b := i) (by omega) (by omega)).mpr h9)
    refine lv_iload_n hx hb dX6_doCallOff_14 rfl (lv_at hl 1 rfl) ?_
    refine lv_aload_n hx hb dX6_doCallOff_15 rfl (lv_at hl 2 rfl) ?_
    refine va_get (v := .ref (A 1)) (C := RX6) (T := TX6) (N := 12) hx hb hts hinX6 hown hK hP 0 rfl rfl 1 (by decide) hf7 (fun _ h9 => h9) rfl dX6_doCallOff_16 ?_
    refine lv_bipush (v := (21 : Int32)) hx hb dX6_doCallOff_19 (by decide) ?_
    refine lv_iload_n hx hb dX6_doCallOff_21 rfl (lv_at hl 0 rfl) ?_
    refine lv_iadd hx hb dX6_doCallOff_22 ?_
    refine top_i (x' := nI (21 + i)) (nI_add (21) (i)) ?_
    refine r_ild (k := 21 + i) (n := 91) (f := z1) hx hb hK hP 1 0 rfl rfl (by omega) (by omega) rfl dX6_doCallOff_23 ?_
    refine lv_aload_n hx hb dX6_doCallOff_24 rfl (lv_at hl 2 rfl) ?_
    refine va_get (v := .ref (A 1)) (C := RX6) (T := TX6) (N := 12) hx hb hts hinX6 hown hK hP 0 rfl rfl 1 (by decide) hf7 (fun _ h9 => h9) rfl dX6_doCallOff_25 ?_
    refine lv_bipush (v := (61 : Int32)) hx hb dX6_doCallOff_28 (by decide) ?_
    refine lv_iload_n hx hb dX6_doCallOff_30 rfl (lv_at hl 0 rfl) ?_
    refine lv_iadd hx hb dX6_doCallOff_31 ?_
    refine top_i (x' := nI (61 + i)) (nI_add (61) (i)) ?_
    refine r_ild (k := 61 + i) (n := 91) (f := z1) hx hb hK hP 1 0 rfl rfl (by omega) (by omega) rfl dX6_doCallOff_32 ?_
    refine lv_icmp_eq (tgt := 40) hx hb dX6_doCallOff_33 (by decide) (fun c_33 => ?_) (fun c_33 => ?_)
    · refine lv_iconst (v := (0 : Int32)) hx hb dX6_doCallOff_40 (by decide) ?_
      refine lv_iadd hx hb dX6_doCallOff_41 ?_
      refine top_i (x' := nI (x + 0)) (nI_add (x) (0)) ?_
      refine lv_istore_n (lv' := [(1, .int (nI (x + 0))), (2, .int (nI (i))), (0, .ref (A 0))]) hx hb dX6_doCallOff_42 rfl hl (by decide) rfl (fun ls hl => ?_)
      refine lv_aload_n hx hb dX6_doCallOff_43 rfl (lv_at hl 2 rfl) ?_
      refine va_get (v := .ref (A 1)) (C := RX6) (T := TX6) (N := 12) hx hb hts hinX6 hown hK hP 0 rfl rfl 1 (by decide) hf7 (fun _ h9 => h9) rfl dX6_doCallOff_44 ?_
      refine lv_bipush (v := (21 : Int32)) hx hb dX6_doCallOff_47 (by decide) ?_
      refine lv_iload_n hx hb dX6_doCallOff_49 rfl (lv_at hl 1 rfl) ?_
      refine lv_iadd hx hb dX6_doCallOff_50 ?_
      refine top_i (x' := nI (21 + i)) (nI_add (21) (i)) ?_
      refine lv_aload_n hx hb dX6_doCallOff_51 rfl (lv_at hl 2 rfl) ?_
      refine va_get (v := .ref (A 1)) (C := RX6) (T := TX6) (N := 12) hx hb hts hinX6 hown hK hP 0 rfl rfl 1 (by decide) hf7 (fun _ h9 => h9) rfl dX6_doCallOff_52 ?_
      refine lv_bipush (v := (61 : Int32)) hx hb dX6_doCallOff_55 (by decide) ?_
      refine lv_iload_n hx hb dX6_doCallOff_57 rfl (lv_at hl 1 rfl) ?_
      refine lv_iadd hx hb dX6_doCallOff_58 ?_
      refine top_i (x' := nI (61 + i)) (nI_add (61) (i)) ?_
      refine r_ild (k := 61 + i) (n := 91) (f := z1) hx hb hK hP 1 0 rfl rfl (by omega) (by omega) rfl dX6_doCallOff_59 ?_
      refine r_ist (k := 21 + i) (n := 91) (f := z1) hx hb hK hP hD hS 1 0 rfl rfl (by omega) (by omega) rfl dX6_doCallOff_60 (fun H locs hP hD hS => ?_)
      have hP : va_P G vwCl (cat [[(A 0, .inr (6, [.int (M.1), .ref (A 1), .ref (A 2), .int (nI (M.2.2.2.1)), .ref (A 3), .int (nI (M.2.2.2.2.2.1)), .ref (A 4), .ref (A 5), .ref (A 6), .ref (A 7), .int (M.2.2.2.2.2.2.2.2.2.2.1), .int (M.2.2.2.2.2.2.2.2.2.2.2)]))], [(A 1, .inl (cyI, 91, .inl (upd z1 (21 + i) (z1 (61 + i)))))], [(A 2, .inl (cyI, 546, .inl (M.2.2.1)))], [(A 3, .inl (cyI, 60, .inl (M.2.2.2.2.1)))], [(A 4, .inl (cyI, 20, .inl (M.2.2.2.2.2.2.1)))], [(A 5, .inl (cyI, 6, .inl (M.2.2.2.2.2.2.2.1)))], [(A 6, .inl (cyI, 6, .inl (M.2.2.2.2.2.2.2.2.1)))], [(A 7, .inl (cyI, 6, .inl (M.2.2.2.2.2.2.2.2.2.1)))]]) H := hP
      have hD : va_D A9 (cat [[(A 0, .inr (6, [.int (M.1), .ref (A 1), .ref (A 2), .int (nI (M.2.2.2.1)), .ref (A 3), .int (nI (M.2.2.2.2.2.1)), .ref (A 4), .ref (A 5), .ref (A 6), .ref (A 7), .int (M.2.2.2.2.2.2.2.2.2.2.1), .int (M.2.2.2.2.2.2.2.2.2.2.2)]))], [(A 1, .inl (cyI, 91, .inl (upd z1 (21 + i) (z1 (61 + i)))))], [(A 2, .inl (cyI, 546, .inl (M.2.2.1)))], [(A 3, .inl (cyI, 60, .inl (M.2.2.2.2.1)))], [(A 4, .inl (cyI, 20, .inl (M.2.2.2.2.2.2.1)))], [(A 5, .inl (cyI, 6, .inl (M.2.2.2.2.2.2.2.1)))], [(A 6, .inl (cyI, 6, .inl (M.2.2.2.2.2.2.2.2.1)))], [(A 7, .inl (cyI, 6, .inl (M.2.2.2.2.2.2.2.2.2.1)))]]) := hD
      refine lv_iinc (v := nI (i + 1)) (lv' := [(2, .int (nI (i + 1))), (1, .int (nI (x + 0))), (0, .ref (A 0))]) hx hb dX6_doCallOff_61 hl (k := 1) rfl (nI_add _ _) (by decide) rfl (fun ls hl => ?_)
      refine lv_goto (tgt := 4) hx hb dX6_doCallOff_64 (by decide) ?_
      exact ih_4 (i + 1, upd z1 (21 + i) (z1 (61 + i)), x + 0) (by show (n - (i + 1)) < (n - i); omega) _ _ _ ⟨(show (i + 1) ≤ n from by omega), (show (upd z1 (21 + i) (z1 (61 + i))) 0 = nI n from by rw [pk_un (by omega)]; exact hz1), (show ((upd z1 (21 + i) (z1 (61 + i))), (x + 0)) = itr (i + 1) coStep (M.2.1, 0) from by show _ = coStep i (itr i _ _); rw [← he]; simp [coStep, c_11, c_33]), hP, hD, hS, lv_sub hl [0, 1, 2] rfl⟩
    · refine lv_iconst (v := (1 : Int32)) hx hb dX6_doCallOff_36 (by decide) ?_
      refine lv_goto (tgt := 41) hx hb dX6_doCallOff_37 (by decide) ?_
      refine lv_iadd hx hb dX6_doCallOff_41 ?_
      refine top_i (x' := nI (x + 1)) (nI_add (x) (1)) ?_
      refine lv_istore_n (lv' := [(1, .int (nI (x + 1))), (2, .int (nI (i))), (0, .ref (A 0))]) hx hb dX6_doCallOff_42 rfl hl (by decide) rfl (fun ls hl => ?_)
      refine lv_aload_n hx hb dX6_doCallOff_43 rfl (lv_at hl 2 rfl) ?_
      refine va_get (v := .ref (A 1)) (C := RX6) (T := TX6) (N := 12) hx hb hts hinX6 hown hK hP 0 rfl rfl 1 (by decide) hf7 (fun _ h9 => h9) rfl dX6_doCallOff_44 ?_
      refine lv_bipush (v := (21 : Int32)) hx hb dX6_doCallOff_47 (by decide) ?_
      refine lv_iload_n hx hb dX6_doCallOff_49 rfl (lv_at hl 1 rfl) ?_
      refine lv_iadd hx hb dX6_doCallOff_50 ?_
      refine top_i (x' := nI (21 + i)) (nI_add (21) (i)) ?_
      refine lv_aload_n hx hb dX6_doCallOff_51 rfl (lv_at hl 2 rfl) ?_
      refine va_get (v := .ref (A 1)) (C := RX6) (T := TX6) (N := 12) hx hb hts hinX6 hown hK hP 0 rfl rfl 1 (by decide) hf7 (fun _ h9 => h9) rfl dX6_doCallOff_52 ?_
      refine lv_bipush (v := (61 : Int32)) hx hb dX6_doCallOff_55 (by decide) ?_
      refine lv_iload_n hx hb dX6_doCallOff_57 rfl (lv_at hl 1 rfl) ?_
      refine lv_iadd hx hb dX6_doCallOff_58 ?_
      refine top_i (x' := nI (61 + i)) (nI_add (61) (i)) ?_
      refine r_ild (k := 61 + i) (n := 91) (f := z1) hx hb hK hP 1 0 rfl rfl (by omega) (by omega) rfl dX6_doCallOff_59 ?_
      refine r_ist (k := 21 + i) (n := 91) (f := z1) hx hb hK hP hD hS 1 0 rfl rfl (by omega) (by omega) rfl dX6_doCallOff_60 (fun H locs hP hD hS => ?_)
      have hP : va_P G vwCl (cat [[(A 0, .inr (6, [.int (M.1), .ref (A 1), .ref (A 2), .int (nI (M.2.2.2.1)), .ref (A 3), .int (nI (M.2.2.2.2.2.1)), .ref (A 4), .ref (A 5), .ref (A 6), .ref (A 7), .int (M.2.2.2.2.2.2.2.2.2.2.1), .int (M.2.2.2.2.2.2.2.2.2.2.2)]))], [(A 1, .inl (cyI, 91, .inl (upd z1 (21 + i) (z1 (61 + i)))))], [(A 2, .inl (cyI, 546, .inl (M.2.2.1)))], [(A 3, .inl (cyI, 60, .inl (M.2.2.2.2.1)))], [(A 4, .inl (cyI, 20, .inl (M.2.2.2.2.2.2.1)))], [(A 5, .inl (cyI, 6, .inl (M.2.2.2.2.2.2.2.1)))], [(A 6, .inl (cyI, 6, .inl (M.2.2.2.2.2.2.2.2.1)))], [(A 7, .inl (cyI, 6, .inl (M.2.2.2.2.2.2.2.2.2.1)))]]) H := hP
      have hD : va_D A9 (cat [[(A 0, .inr (6, [.int (M.1), .ref (A 1), .ref (A 2), .int (nI (M.2.2.2.1)), .ref (A 3), .int (nI (M.2.2.2.2.2.1)), .ref (A 4), .ref (A 5), .ref (A 6), .ref (A 7), .int (M.2.2.2.2.2.2.2.2.2.2.1), .int (M.2.2.2.2.2.2.2.2.2.2.2)]))], [(A 1, .inl (cyI, 91, .inl (upd z1 (21 + i) (z1 (61 + i)))))], [(A 2, .inl (cyI, 546, .inl (M.2.2.1)))], [(A 3, .inl (cyI, 60, .inl (M.2.2.2.2.1)))], [(A 4, .inl (cyI, 20, .inl (M.2.2.2.2.2.2.1)))], [(A 5, .inl (cyI, 6, .inl (M.2.2.2.2.2.2.2.1)))], [(A 6, .inl (cyI, 6, .inl (M.2.2.2.2.2.2.2.2.1)))], [(A 7, .inl (cyI, 6, .inl (M.2.2.2.2.2.2.2.2.2.1)))]]) := hD
      refine lv_iinc (v := nI (i + 1)) (lv' := [(2, .int (nI (i + 1))), (1, .int (nI (x + 1))), (0, .ref (A 0))]) hx hb dX6_doCallOff_61 hl (k := 1) rfl (nI_add _ _) (by decide) rfl (fun ls hl => ?_)
      refine lv_goto (tgt := 4) hx hb dX6_doCallOff_64 (by decide) ?_
      exact ih_4 (i + 1, upd z1 (21 + i) (z1 (61 + i)), x + 1) (by show (n - (i + 1)) < (n - i); omega) _ _ _ ⟨(show (i + 1) ≤ n from by omega), (show (upd z1 (21 + i) (z1 (61 + i))) 0 = nI n from by rw [pk_un (by omega)]; exact hz1), (show ((upd z1 (21 + i) (z1 (61 + i))), (x + 1)) = itr (i + 1) coStep (M.2.1, 0) from by show _ = coStep i (itr i _ _); rw [← he]; simp [coStep, c_11, c_33]), hP, hD, hS, lv_sub hl [0, 1, 2] rfl⟩
abbrev rm_X6_plannedNow : Room := { frames := 0, cells := 0, slots := 0, locals := 0 }
set_option maxHeartbeats 4000000 in
set_option maxRecDepth 100000 in
theorem c_X6_plannedNow (l : Launch) (G : va_G) (cyI cyO : ClassId) (A : Nat → Nat) (M : MS) (n : Nat) (hM : MI M.2.1 n) (k : Nat) (hk : k < 20) : CI l G (TY cyI cyO) yX6_plannedNow wsX6_plannedNow rm_X6_plannedNow [.ref (A 0), .int (nI (k))] [mdW cyI A M] (if M.2.1 87 ≤ 0 then M.2.1 (21 + k) else M.2.1 (41 + k)) [mdW cyI A M] := by
  refine wk_I (cc := cX6_plannedNow) (maxL := 2) (ret := (some .int)) (by decide) rfl (Nat.le_of_ble_eq_true rfl) ?_
  intro p9 e9 s9 m9 b9 t9 c9 A9 ls hx hb hr hts hown hlocks hml hK hA hD hP hl hS hnm
  have hl : lv_has ls 2 [(0, .ref (A 0)), (1, .int (nI (k)))] := hl
  have hinX6 : ∀ w ∈ wsX60, w ∈ wsX6_plannedNow := by decide +kernel
  have hf7 := hts (.fieldLink RX6 7 "DoorstepRoundsModel" "z" "[I") (by decide +kernel)
  have hz : M.2.1 0 = nI n := hM.1
  have hn : n ≤ 20 := hM.2.1
  have hWk := hM.2.2.1
  have hOw := hM.2.2.2
  refine lv_aload_n hx hb dX6_plannedNow_0 rfl (lv_at hl 0 rfl) ?_
  refine va_get (v := .ref (A 1)) (C := RX6) (T := TX6) (N := 12) hx hb hts hinX6 hown hK hP 0 rfl rfl 1 (by decide) hf7 (fun _ h9 => h9) rfl dX6_plannedNow_1 ?_
  refine lv_bipush (v := (87 : Int32)) hx hb dX6_plannedNow_4 (by decide) ?_
  refine r_ild (k := 87) (n := 91) (f := M.2.1) hx hb hK hP 1 0 rfl rfl (by omega) (by omega) rfl dX6_plannedNow_6 ?_
  refine lv_if_le (tgt := 22) hx hb dX6_plannedNow_7 (by decide) (fun c_7 => ?_) (fun c_7 => ?_)
  · refine lv_aload_n hx hb dX6_plannedNow_22 rfl (lv_at hl 0 rfl) ?_
    refine va_get (v := .ref (A 1)) (C := RX6) (T := TX6) (N := 12) hx hb hts hinX6 hown hK hP 0 rfl rfl 1 (by decide) hf7 (fun _ h9 => h9) rfl dX6_plannedNow_23 ?_
    refine lv_bipush (v := (21 : Int32)) hx hb dX6_plannedNow_26 (by decide) ?_
    refine lv_iload_n hx hb dX6_plannedNow_28 rfl (lv_at hl 1 rfl) ?_
    refine lv_iadd hx hb dX6_plannedNow_29 ?_
    refine top_i (x' := nI (21 + k)) (nI_add (21) (k)) ?_
    refine r_ild (k := 21 + k) (n := 91) (f := M.2.1) hx hb hK hP 1 0 rfl rfl (by omega) (by omega) rfl dX6_plannedNow_30 ?_
    have hP : va_P G vwCl (cat [mdW cyI A M]) s9.heap := hP
    have hD : va_D A9 (cat [mdW cyI A M]) := hD
    exact end_i hx hb hr hlocks hK hP hD hS (by simp [c_7]) dX6_plannedNow_31
  · refine lv_aload_n hx hb dX6_plannedNow_10 rfl (lv_at hl 0 rfl) ?_
    refine va_get (v := .ref (A 1)) (C := RX6) (T := TX6) (N := 12) hx hb hts hinX6 hown hK hP 0 rfl rfl 1 (by decide) hf7 (fun _ h9 => h9) rfl dX6_plannedNow_11 ?_
    refine lv_bipush (v := (41 : Int32)) hx hb dX6_plannedNow_14 (by decide) ?_
    refine lv_iload_n hx hb dX6_plannedNow_16 rfl (lv_at hl 1 rfl) ?_
    refine lv_iadd hx hb dX6_plannedNow_17 ?_
    refine top_i (x' := nI (41 + k)) (nI_add (41) (k)) ?_
    refine r_ild (k := 41 + k) (n := 91) (f := M.2.1) hx hb hK hP 1 0 rfl rfl (by omega) (by omega) rfl dX6_plannedNow_18 ?_
    refine lv_goto (tgt := 31) hx hb dX6_plannedNow_19 (by decide) ?_
    have hP : va_P G vwCl (cat [mdW cyI A M]) s9.heap := hP
    have hD : va_D A9 (cat [mdW cyI A M]) := hD
    exact end_i hx hb hr hlocks hK hP hD hS (by simp [c_7]) dX6_plannedNow_31
abbrev rm_X6_doDeliver : Room := { frames := 0, cells := 0, slots := 0, locals := 0 }
set_option maxHeartbeats 4000000 in
set_option maxRecDepth 100000 in
theorem c_X6_doDeliver (l : Launch) (G : va_G) (cyI cyO : ClassId) (A : Nat → Nat) (M : MS) (n : Nat) (hM : MI M.2.1 n) : CI l G (TY cyI cyO) yX6_doDeliver wsX6_doDeliver rm_X6_doDeliver [.ref (A 0)] [mdW cyI A M] ((dvAll M.2.1 n).2) [mdW cyI A ((M.1, upd (dvAll M.2.1 n).1 89 ((dvAll M.2.1 n).1 89 + (dvAll M.2.1 n).2), M.2.2.1, M.2.2.2.1, M.2.2.2.2.1, M.2.2.2.2.2.1, M.2.2.2.2.2.2.1, M.2.2.2.2.2.2.2.1, M.2.2.2.2.2.2.2.2.1, M.2.2.2.2.2.2.2.2.2.1, M.2.2.2.2.2.2.2.2.2.2.1, M.2.2.2.2.2.2.2.2.2.2.2))] := by
  refine wk_I (cc := cX6_doDeliver) (maxL := 3) (ret := (some .int)) (by decide) rfl (Nat.le_of_ble_eq_true rfl) ?_
  intro p9 e9 s9 m9 b9 t9 c9 A9 ls hx hb hr hts hown hlocks hml hK hA hD hP hl hS hnm
  have hl : lv_has ls 3 [(0, .ref (A 0))] := hl
  have hinX6 : ∀ w ∈ wsX60, w ∈ wsX6_doDeliver := by decide +kernel
  have hf7 := hts (.fieldLink RX6 7 "DoorstepRoundsModel" "z" "[I") (by decide +kernel)
  have hz : M.2.1 0 = nI n := hM.1
  have hn : n ≤ 20 := hM.2.1
  have hWk := hM.2.2.1
  have hOw := hM.2.2.2
  have hP : va_P G vwCl (cat [[(A 0, .inr (6, [.int (M.1), .ref (A 1), .ref (A 2), .int (nI (M.2.2.2.1)), .ref (A 3), .int (nI (M.2.2.2.2.2.1)), .ref (A 4), .ref (A 5), .ref (A 6), .ref (A 7), .int (M.2.2.2.2.2.2.2.2.2.2.1), .int (M.2.2.2.2.2.2.2.2.2.2.2)]))], [(A 1, .inl (cyI, 91, .inl (M.2.1)))], [(A 2, .inl (cyI, 546, .inl (M.2.2.1)))], [(A 3, .inl (cyI, 60, .inl (M.2.2.2.2.1)))], [(A 4, .inl (cyI, 20, .inl (M.2.2.2.2.2.2.1)))], [(A 5, .inl (cyI, 6, .inl (M.2.2.2.2.2.2.2.1)))], [(A 6, .inl (cyI, 6, .inl (M.2.2.2.2.2.2.2.2.1)))], [(A 7, .inl (cyI, 6, .inl (M.2.2.2.2.2.2.2.2.2.1)))]]) s9.heap := hP
  have hD : va_D A9 (cat [[(A 0, .inr (6, [.int (M.1), .ref (A 1), .ref (A 2), .int (nI (M.2.2.2.1)), .ref (A 3), .int (nI (M.2.2.2.2.2.1)), .ref (A 4), .ref (A 5), .ref (A 6), .ref (A 7), .int (M.2.2.2.2.2.2.2.2.2.2.1), .int (M.2.2.2.2.2.2.2.2.2.2.2)]))], [(A 1, .inl (cyI, 91, .inl (M.2.1)))], [(A 2, .inl (cyI, 546, .inl (M.2.2.1)))], [(A 3, .inl (cyI, 60, .inl (M.2.2.2.2.1)))], [(A 4, .inl (cyI, 20, .inl (M.2.2.2.2.2.2.1)))], [(A 5, .inl (cyI, 6, .inl (M.2.2.2.2.2.2.2.1)))], [(A 6, .inl (cyI, 6, .inl (M.2.2.2.2.2.2.2.2.1)))], [(A 7, .inl (cyI, 6, .inl (M.2.2.2.2.2.2.2.2.2.1)))]]) := hD
  refine lv_iconst (v := (0 : Int32)) hx hb dX6_doDeliver_0 (by decide) ?_
  refine lv_istore_n (lv' := [(1, .int ((0 : Int32))), (0, .ref (A 0))]) hx hb dX6_doDeliver_1 rfl hl (by decide) rfl (fun ls hl => ?_)
  refine lv_iconst (v := (0 : Int32)) hx hb dX6_doDeliver_2 (by decide) ?_
  refine lv_istore_n (lv' := [(2, .int ((0 : Int32))), (1, .int ((0 : Int32))), (0, .ref (A 0))]) hx hb dX6_doDeliver_3 rfl hl (by decide) rfl (fun ls hl => ?_)
  refine W_loop (α := Nat × (Nat → Int32) × Int32) (I := fun a9 H locs ls => (a9.1 ≤ n) ∧ (a9.2.1 0 = nI n) ∧ ((a9.2.1, a9.2.2) = itr a9.1 dvStep (M.2.1, 0)) ∧ va_P G vwCl (cat [[(A 0, .inr (6, [.int (M.1), .ref (A 1), .ref (A 2), .int (nI (M.2.2.2.1)), .ref (A 3), .int (nI (M.2.2.2.2.2.1)), .ref (A 4), .ref (A 5), .ref (A 6), .ref (A 7), .int (M.2.2.2.2.2.2.2.2.2.2.1), .int (M.2.2.2.2.2.2.2.2.2.2.2)]))], [(A 1, .inl (cyI, 91, .inl (a9.2.1)))], [(A 2, .inl (cyI, 546, .inl (M.2.2.1)))], [(A 3, .inl (cyI, 60, .inl (M.2.2.2.2.1)))], [(A 4, .inl (cyI, 20, .inl (M.2.2.2.2.2.2.1)))], [(A 5, .inl (cyI, 6, .inl (M.2.2.2.2.2.2.2.1)))], [(A 6, .inl (cyI, 6, .inl (M.2.2.2.2.2.2.2.2.1)))], [(A 7, .inl (cyI, 6, .inl (M.2.2.2.2.2.2.2.2.2.1)))]]) H ∧ va_D A9 (cat [[(A 0, .inr (6, [.int (M.1), .ref (A 1), .ref (A 2), .int (nI (M.2.2.2.1)), .ref (A 3), .int (nI (M.2.2.2.2.2.1)), .ref (A 4), .ref (A 5), .ref (A 6), .ref (A 7), .int (M.2.2.2.2.2.2.2.2.2.2.1), .int (M.2.2.2.2.2.2.2.2.2.2.2)]))], [(A 1, .inl (cyI, 91, .inl (a9.2.1)))], [(A 2, .inl (cyI, 546, .inl (M.2.2.1)))], [(A 3, .inl (cyI, 60, .inl (M.2.2.2.2.1)))], [(A 4, .inl (cyI, 20, .inl (M.2.2.2.2.2.2.1)))], [(A 5, .inl (cyI, 6, .inl (M.2.2.2.2.2.2.2.1)))], [(A 6, .inl (cyI, 6, .inl (M.2.2.2.2.2.2.2.2.1)))], [(A 7, .inl (cyI, 6, .inl (M.2.2.2.2.2.2.2.2.2.1)))]]) ∧ va_S A9 s9.heap H locs ∧ lv_has ls 3 [(2, .int (nI (a9.1))), (1, .int (a9.2.2)), (0, .ref (A 0))]) (μ := fun a9 => n - a9.1) (st := fun a9 => []) ?_ (0, M.2.1, 0) _ _ _ ⟨(show 0 ≤ n from by omega), (show M.2.1 0 = nI n from hz), (show (M.2.1, 0) = itr 0 dvStep (M.2.1, 0) from rfl), hP, hD, hS, lv_sub hl [0, 1, 2] rfl⟩
  intro a9 ih_4 H locs ls hI
  obtain ⟨i, z1, x⟩ := a9
  obtain ⟨hi9, hz19, he9, hP9, hD9, hS9, hl9⟩ := hI
  have hi : i ≤ n := hi9
  have hz1 : z1 0 = nI n := hz19
  have he : (z1, x) = itr i dvStep (M.2.1, 0) := he9
  have hP : va_P G vwCl (cat [[(A 0, .inr (6, [.int (M.1), .ref (A 1), .ref (A 2), .int (nI (M.2.2.2.1)), .ref (A 3), .int (nI (M.2.2.2.2.2.1)), .ref (A 4), .ref (A 5), .ref (A 6), .ref (A 7), .int (M.2.2.2.2.2.2.2.2.2.2.1), .int (M.2.2.2.2.2.2.2.2.2.2.2)]))], [(A 1, .inl (cyI, 91, .inl (z1)))], [(A 2, .inl (cyI, 546, .inl (M.2.2.1)))], [(A 3, .inl (cyI, 60, .inl (M.2.2.2.2.1)))], [(A 4, .inl (cyI, 20, .inl (M.2.2.2.2.2.2.1)))], [(A 5, .inl (cyI, 6, .inl (M.2.2.2.2.2.2.2.1)))], [(A 6, .inl (cyI, 6, .inl (M.2.2.2.2.2.2.2.2.1)))], [(A 7, .inl (cyI, 6, .inl (M.2.2.2.2.2.2.2.2.2.1)))]]) H := hP9
  have hD : va_D A9 (cat [[(A 0, .inr (6, [.int (M.1), .ref (A 1), .ref (A 2), .int (nI (M.2.2.2.1)), .ref (A 3), .int (nI (M.2.2.2.2.2.1)), .ref (A 4), .ref (A 5), .ref (A 6), .ref (A 7), .int (M.2.2.2.2.2.2.2.2.2.2.1), .int (M.2.2.2.2.2.2.2.2.2.2.2)]))], [(A 1, .inl (cyI, 91, .inl (z1)))], [(A 2, .inl (cyI, 546, .inl (M.2.2.1)))], [(A 3, .inl (cyI, 60, .inl (M.2.2.2.2.1)))], [(A 4, .inl (cyI, 20, .inl (M.2.2.2.2.2.2.1)))], [(A 5, .inl (cyI, 6, .inl (M.2.2.2.2.2.2.2.1)))], [(A 6, .inl (cyI, 6, .inl (M.2.2.2.2.2.2.2.2.1)))], [(A 7, .inl (cyI, 6, .inl (M.2.2.2.2.2.2.2.2.2.1)))]]) := hD9
  have hS := hS9
  have hl : lv_has ls 3 [(2, .int (nI (i))), (1, .int (x)), (0, .ref (A 0))] := hl9
  clear hi9 hz19 he9 hP9 hD9 hS9 hl9
  refine lv_iload_n hx hb dX6_doDeliver_4 rfl (lv_at hl 0 rfl) ?_
  refine lv_aload_n hx hb dX6_doDeliver_5 rfl (lv_at hl 2 rfl) ?_
  refine va_get (v := .ref (A 1)) (C := RX6) (T := TX6) (N := 12) hx hb hts hinX6 hown hK hP 0 rfl rfl 1 (by decide) hf7 (fun _ h9 => h9) rfl dX6_doDeliver_6 ?_
  refine lv_iconst (v := (0 : Int32)) hx hb dX6_doDeliver_9 (by decide) ?_
  refine r_ild (k := 0) (n := 91) (f := z1) hx hb hK hP 1 0 rfl rfl (by omega) (by omega) rfl dX6_doDeliver_10 ?_
  refine top_i (x' := nI (n)) (hz1) ?_
  refine lv_icmp_ge (tgt := 74) hx hb dX6_doDeliver_11 (by decide) (fun c_11 => ?_) (fun c_11 => ?_)
  · have c_11 : (n) ≤ (i) := (nI_leI (a := n) (b := i) (by omega) (by omega)).mp c_11
    obtain rfl : n = i := by omega
    have e1 : z1 = (dvAll M.2.1 n).1 := congrArg Prod.fst he
    have e2 : x = (dvAll M.2.1 n).2 := congrArg Prod.snd he
    subst e1 e2
    refine lv_aload_n hx hb dX6_doDeliver_74 rfl (lv_at hl 2 rfl) ?_
    refine va_get (v := .ref (A 1)) (C := RX6) (T := TX6) (N := 12) hx hb hts hinX6 hown hK hP 0 rfl rfl 1 (by decide) hf7 (fun _ h9 => h9) rfl dX6_doDeliver_75 ?_
    refine lv_bipush (v := (89 : Int32)) hx hb dX6_doDeliver_78 (by decide) ?_
    refine lv_dup2_11 hx hb dX6_doDeliver_80 rfl rfl ?_
    refine r_ild (k := 89) (n := 91) (f := (dvAll M.2.1 n).1) hx hb hK hP 1 0 rfl rfl (by omega) (by omega) rfl dX6_doDeliver_81 ?_
    refine lv_iload_n hx hb dX6_doDeliver_82 rfl (lv_at hl 1 rfl) ?_
    refine lv_iadd hx hb dX6_doDeliver_83 ?_
    refine r_ist (k := 89) (n := 91) (f := (dvAll M.2.1 n).1) hx hb hK hP hD hS 1 0 rfl rfl (by omega) (by omega) rfl dX6_doDeliver_84 (fun H locs hP hD hS => ?_)
    have hP : va_P G vwCl (cat [[(A 0, .inr (6, [.int (M.1), .ref (A 1), .ref (A 2), .int (nI (M.2.2.2.1)), .ref (A 3), .int (nI (M.2.2.2.2.2.1)), .ref (A 4), .ref (A 5), .ref (A 6), .ref (A 7), .int (M.2.2.2.2.2.2.2.2.2.2.1), .int (M.2.2.2.2.2.2.2.2.2.2.2)]))], [(A 1, .inl (cyI, 91, .inl (upd ((dvAll M.2.1 n).1) 89 ((((dvAll M.2.1 n).1) 89) + ((dvAll M.2.1 n).2)))))], [(A 2, .inl (cyI, 546, .inl (M.2.2.1)))], [(A 3, .inl (cyI, 60, .inl (M.2.2.2.2.1)))], [(A 4, .inl (cyI, 20, .inl (M.2.2.2.2.2.2.1)))], [(A 5, .inl (cyI, 6, .inl (M.2.2.2.2.2.2.2.1)))], [(A 6, .inl (cyI, 6, .inl (M.2.2.2.2.2.2.2.2.1)))], [(A 7, .inl (cyI, 6, .inl (M.2.2.2.2.2.2.2.2.2.1)))]]) H := hP
    have hD : va_D A9 (cat [[(A 0, .inr (6, [.int (M.1), .ref (A 1), .ref (A 2), .int (nI (M.2.2.2.1)), .ref (A 3), .int (nI (M.2.2.2.2.2.1)), .ref (A 4), .ref (A 5), .ref (A 6), .ref (A 7), .int (M.2.2.2.2.2.2.2.2.2.2.1), .int (M.2.2.2.2.2.2.2.2.2.2.2)]))], [(A 1, .inl (cyI, 91, .inl (upd ((dvAll M.2.1 n).1) 89 ((((dvAll M.2.1 n).1) 89) + ((dvAll M.2.1 n).2)))))], [(A 2, .inl (cyI, 546, .inl (M.2.2.1)))], [(A 3, .inl (cyI, 60, .inl (M.2.2.2.2.1)))], [(A 4, .inl (cyI, 20, .inl (M.2.2.2.2.2.2.1)))], [(A 5, .inl (cyI, 6, .inl (M.2.2.2.2.2.2.2.1)))], [(A 6, .inl (cyI, 6, .inl (M.2.2.2.2.2.2.2.2.1)))], [(A 7, .inl (cyI, 6, .inl (M.2.2.2.2.2.2.2.2.2.1)))]]) := hD
    refine lv_iload_n hx hb dX6_doDeliver_85 rfl (lv_at hl 1 rfl) ?_
    have hP : va_P G vwCl (cat [mdW cyI A ((M.1, upd (dvAll M.2.1 n).1 89 ((dvAll M.2.1 n).1 89 + (dvAll M.2.1 n).2), M.2.2.1, M.2.2.2.1, M.2.2.2.2.1, M.2.2.2.2.2.1, M.2.2.2.2.2.2.1, M.2.2.2.2.2.2.2.1, M.2.2.2.2.2.2.2.2.1, M.2.2.2.2.2.2.2.2.2.1, M.2.2.2.2.2.2.2.2.2.2.1, M.2.2.2.2.2.2.2.2.2.2.2))]) H := hP
    have hD : va_D A9 (cat [mdW cyI A ((M.1, upd (dvAll M.2.1 n).1 89 ((dvAll M.2.1 n).1 89 + (dvAll M.2.1 n).2), M.2.2.1, M.2.2.2.1, M.2.2.2.2.1, M.2.2.2.2.2.1, M.2.2.2.2.2.2.1, M.2.2.2.2.2.2.2.1, M.2.2.2.2.2.2.2.2.1, M.2.2.2.2.2.2.2.2.2.1, M.2.2.2.2.2.2.2.2.2.2.1, M.2.2.2.2.2.2.2.2.2.2.2))]) := hD
    exact end_i hx hb hr hlocks hK hP hD hS (rfl) dX6_doDeliver_86
  · have c_11 : ¬ (n) ≤ (i) := fun h9 => c_11 ((nI_leI (a := n) (b := i) (by omega) (by omega)).mpr h9)
    refine lv_iload_n hx hb dX6_doDeliver_14 rfl (lv_at hl 1 rfl) ?_
    refine lv_aload_n hx hb dX6_doDeliver_15 rfl (lv_at hl 2 rfl) ?_
    refine va_get (v := .ref (A 1)) (C := RX6) (T := TX6) (N := 12) hx hb hts hinX6 hown hK hP 0 rfl rfl 1 (by decide) hf7 (fun _ h9 => h9) rfl dX6_doDeliver_16 ?_
    refine lv_bipush (v := (21 : Int32)) hx hb dX6_doDeliver_19 (by decide) ?_
    refine lv_iload_n hx hb dX6_doDeliver_21 rfl (lv_at hl 0 rfl) ?_
    refine lv_iadd hx hb dX6_doDeliver_22 ?_
    refine top_i (x' := nI (21 + i)) (nI_add (21) (i)) ?_
    refine r_ild (k := 21 + i) (n := 91) (f := z1) hx hb hK hP 1 0 rfl rfl (by omega) (by omega) rfl dX6_doDeliver_23 ?_
    refine lv_if_lt (tgt := 38) hx hb dX6_doDeliver_24 (by decide) (fun c_24 => ?_) (fun c_24 => ?_)
    · refine lv_iconst (v := (0 : Int32)) hx hb dX6_doDeliver_38 (by decide) ?_
      refine lv_iadd hx hb dX6_doDeliver_39 ?_
      refine lv_istore_n (lv' := [(1, .int (x + ((0 : Int32)))), (2, .int (nI (i))), (0, .ref (A 0))]) hx hb dX6_doDeliver_40 rfl hl (by decide) rfl (fun ls hl => ?_)
      refine lv_aload_n hx hb dX6_doDeliver_41 rfl (lv_at hl 2 rfl) ?_
      refine va_get (v := .ref (A 1)) (C := RX6) (T := TX6) (N := 12) hx hb hts hinX6 hown hK hP 0 rfl rfl 1 (by decide) hf7 (fun _ h9 => h9) rfl dX6_doDeliver_42 ?_
      refine lv_bipush (v := (90 : Int32)) hx hb dX6_doDeliver_45 (by decide) ?_
      refine lv_dup2_11 hx hb dX6_doDeliver_47 rfl rfl ?_
      refine r_ild (k := 90) (n := 91) (f := z1) hx hb hK hP 1 0 rfl rfl (by omega) (by omega) rfl dX6_doDeliver_48 ?_
      refine lv_aload_n hx hb dX6_doDeliver_49 rfl (lv_at hl 2 rfl) ?_
      refine va_get (v := .ref (A 1)) (C := RX6) (T := TX6) (N := 12) hx hb hts hinX6 hown hK hP 0 rfl rfl 1 (by decide) hf7 (fun _ h9 => h9) rfl dX6_doDeliver_50 ?_
      refine lv_bipush (v := (21 : Int32)) hx hb dX6_doDeliver_53 (by decide) ?_
      refine lv_iload_n hx hb dX6_doDeliver_55 rfl (lv_at hl 1 rfl) ?_
      refine lv_iadd hx hb dX6_doDeliver_56 ?_
      refine top_i (x' := nI (21 + i)) (nI_add (21) (i)) ?_
      refine r_ild (k := 21 + i) (n := 91) (f := z1) hx hb hK hP 1 0 rfl rfl (by omega) (by omega) rfl dX6_doDeliver_57 ?_
      refine lv_if_lt (tgt := 65) hx hb dX6_doDeliver_58 (by decide) (fun c_58 => ?_) (fun c_58 => ?_)
      · refine lv_iconst (v := (1 : Int32)) hx hb dX6_doDeliver_65 (by decide) ?_
        refine lv_iadd hx hb dX6_doDeliver_66 ?_
        refine r_ist (k := 90) (n := 91) (f := z1) hx hb hK hP hD hS 1 0 rfl rfl (by omega) (by omega) rfl dX6_doDeliver_67 (fun H locs hP hD hS => ?_)
        have hP : va_P G vwCl (cat [[(A 0, .inr (6, [.int (M.1), .ref (A 1), .ref (A 2), .int (nI (M.2.2.2.1)), .ref (A 3), .int (nI (M.2.2.2.2.2.1)), .ref (A 4), .ref (A 5), .ref (A 6), .ref (A 7), .int (M.2.2.2.2.2.2.2.2.2.2.1), .int (M.2.2.2.2.2.2.2.2.2.2.2)]))], [(A 1, .inl (cyI, 91, .inl (upd z1 90 ((z1 90) + ((1 : Int32))))))], [(A 2, .inl (cyI, 546, .inl (M.2.2.1)))], [(A 3, .inl (cyI, 60, .inl (M.2.2.2.2.1)))], [(A 4, .inl (cyI, 20, .inl (M.2.2.2.2.2.2.1)))], [(A 5, .inl (cyI, 6, .inl (M.2.2.2.2.2.2.2.1)))], [(A 6, .inl (cyI, 6, .inl (M.2.2.2.2.2.2.2.2.1)))], [(A 7, .inl (cyI, 6, .inl (M.2.2.2.2.2.2.2.2.2.1)))]]) H := hP
        have hD : va_D A9 (cat [[(A 0, .inr (6, [.int (M.1), .ref (A 1), .ref (A 2), .int (nI (M.2.2.2.1)), .ref (A 3), .int (nI (M.2.2.2.2.2.1)), .ref (A 4), .ref (A 5), .ref (A 6), .ref (A 7), .int (M.2.2.2.2.2.2.2.2.2.2.1), .int (M.2.2.2.2.2.2.2.2.2.2.2)]))], [(A 1, .inl (cyI, 91, .inl (upd z1 90 ((z1 90) + ((1 : Int32))))))], [(A 2, .inl (cyI, 546, .inl (M.2.2.1)))], [(A 3, .inl (cyI, 60, .inl (M.2.2.2.2.1)))], [(A 4, .inl (cyI, 20, .inl (M.2.2.2.2.2.2.1)))], [(A 5, .inl (cyI, 6, .inl (M.2.2.2.2.2.2.2.1)))], [(A 6, .inl (cyI, 6, .inl (M.2.2.2.2.2.2.2.2.1)))], [(A 7, .inl (cyI, 6, .inl (M.2.2.2.2.2.2.2.2.2.1)))]]) := hD
        refine lv_iinc (v := nI (i + 1)) (lv' := [(2, .int (nI (i + 1))), (1, .int (x + ((0 : Int32)))), (0, .ref (A 0))]) hx hb dX6_doDeliver_68 hl (k := 1) rfl (nI_add _ _) (by decide) rfl (fun ls hl => ?_)
        refine lv_goto (tgt := 4) hx hb dX6_doDeliver_71 (by decide) ?_
        exact ih_4 (i + 1, upd z1 90 ((z1 90) + ((1 : Int32))), x + ((0 : Int32))) (by show (n - (i + 1)) < (n - i); omega) _ _ _ ⟨(show (i + 1) ≤ n from by omega), (show (upd z1 90 ((z1 90) + ((1 : Int32)))) 0 = nI n from by rw [pk_un (by omega)]; exact hz1), (show ((upd z1 90 ((z1 90) + ((1 : Int32)))), (x + ((0 : Int32)))) = itr (i + 1) dvStep (M.2.1, 0) from by show _ = dvStep i (itr i _ _); rw [← he]; first | (simp [dvStep, c_11, c_24, c_58]; done) | exact absurd c_24 c_58 | exact absurd c_58 c_24), hP, hD, hS, lv_sub hl [0, 1, 2] rfl⟩
      · refine lv_iconst (v := (0 : Int32)) hx hb dX6_doDeliver_61 (by decide) ?_
        refine lv_goto (tgt := 66) hx hb dX6_doDeliver_62 (by decide) ?_
        refine lv_iadd hx hb dX6_doDeliver_66 ?_
        refine r_ist (k := 90) (n := 91) (f := z1) hx hb hK hP hD hS 1 0 rfl rfl (by omega) (by omega) rfl dX6_doDeliver_67 (fun H locs hP hD hS => ?_)
        have hP : va_P G vwCl (cat [[(A 0, .inr (6, [.int (M.1), .ref (A 1), .ref (A 2), .int (nI (M.2.2.2.1)), .ref (A 3), .int (nI (M.2.2.2.2.2.1)), .ref (A 4), .ref (A 5), .ref (A 6), .ref (A 7), .int (M.2.2.2.2.2.2.2.2.2.2.1), .int (M.2.2.2.2.2.2.2.2.2.2.2)]))], [(A 1, .inl (cyI, 91, .inl (upd z1 90 ((z1 90) + ((0 : Int32))))))], [(A 2, .inl (cyI, 546, .inl (M.2.2.1)))], [(A 3, .inl (cyI, 60, .inl (M.2.2.2.2.1)))], [(A 4, .inl (cyI, 20, .inl (M.2.2.2.2.2.2.1)))], [(A 5, .inl (cyI, 6, .inl (M.2.2.2.2.2.2.2.1)))], [(A 6, .inl (cyI, 6, .inl (M.2.2.2.2.2.2.2.2.1)))], [(A 7, .inl (cyI, 6, .inl (M.2.2.2.2.2.2.2.2.2.1)))]]) H := hP
        have hD : va_D A9 (cat [[(A 0, .inr (6, [.int (M.1), .ref (A 1), .ref (A 2), .int (nI (M.2.2.2.1)), .ref (A 3), .int (nI (M.2.2.2.2.2.1)), .ref (A 4), .ref (A 5), .ref (A 6), .ref (A 7), .int (M.2.2.2.2.2.2.2.2.2.2.1), .int (M.2.2.2.2.2.2.2.2.2.2.2)]))], [(A 1, .inl (cyI, 91, .inl (upd z1 90 ((z1 90) + ((0 : Int32))))))], [(A 2, .inl (cyI, 546, .inl (M.2.2.1)))], [(A 3, .inl (cyI, 60, .inl (M.2.2.2.2.1)))], [(A 4, .inl (cyI, 20, .inl (M.2.2.2.2.2.2.1)))], [(A 5, .inl (cyI, 6, .inl (M.2.2.2.2.2.2.2.1)))], [(A 6, .inl (cyI, 6, .inl (M.2.2.2.2.2.2.2.2.1)))], [(A 7, .inl (cyI, 6, .inl (M.2.2.2.2.2.2.2.2.2.1)))]]) := hD
        refine lv_iinc (v := nI (i + 1)) (lv' := [(2, .int (nI (i + 1))), (1, .int (x + ((0 : Int32)))), (0, .ref (A 0))]) hx hb dX6_doDeliver_68 hl (k := 1) rfl (nI_add _ _) (by decide) rfl (fun ls hl => ?_)
        refine lv_goto (tgt := 4) hx hb dX6_doDeliver_71 (by decide) ?_
        exact ih_4 (i + 1, upd z1 90 ((z1 90) + ((0 : Int32))), x + ((0 : Int32))) (by show (n - (i + 1)) < (n - i); omega) _ _ _ ⟨(show (i + 1) ≤ n from by omega), (show (upd z1 90 ((z1 90) + ((0 : Int32)))) 0 = nI n from by rw [pk_un (by omega)]; exact hz1), (show ((upd z1 90 ((z1 90) + ((0 : Int32)))), (x + ((0 : Int32)))) = itr (i + 1) dvStep (M.2.1, 0) from by show _ = dvStep i (itr i _ _); rw [← he]; first | (simp [dvStep, c_11, c_24, c_58]; done) | exact absurd c_24 c_58 | exact absurd c_58 c_24), hP, hD, hS, lv_sub hl [0, 1, 2] rfl⟩
    · refine lv_aload_n hx hb dX6_doDeliver_27 rfl (lv_at hl 2 rfl) ?_
      refine va_get (v := .ref (A 1)) (C := RX6) (T := TX6) (N := 12) hx hb hts hinX6 hown hK hP 0 rfl rfl 1 (by decide) hf7 (fun _ h9 => h9) rfl dX6_doDeliver_28 ?_
      refine lv_iconst (v := (1 : Int32)) hx hb dX6_doDeliver_31 (by decide) ?_
      refine lv_iload_n hx hb dX6_doDeliver_32 rfl (lv_at hl 0 rfl) ?_
      refine lv_iadd hx hb dX6_doDeliver_33 ?_
      refine top_i (x' := nI (1 + i)) (nI_add (1) (i)) ?_
      refine r_ild (k := 1 + i) (n := 91) (f := z1) hx hb hK hP 1 0 rfl rfl (by omega) (by omega) rfl dX6_doDeliver_34 ?_
      refine lv_goto (tgt := 39) hx hb dX6_doDeliver_35 (by decide) ?_
      refine lv_iadd hx hb dX6_doDeliver_39 ?_
      refine lv_istore_n (lv' := [(1, .int (x + (z1 (1 + i)))), (2, .int (nI (i))), (0, .ref (A 0))]) hx hb dX6_doDeliver_40 rfl hl (by decide) rfl (fun ls hl => ?_)
      refine lv_aload_n hx hb dX6_doDeliver_41 rfl (lv_at hl 2 rfl) ?_
      refine va_get (v := .ref (A 1)) (C := RX6) (T := TX6) (N := 12) hx hb hts hinX6 hown hK hP 0 rfl rfl 1 (by decide) hf7 (fun _ h9 => h9) rfl dX6_doDeliver_42 ?_
      refine lv_bipush (v := (90 : Int32)) hx hb dX6_doDeliver_45 (by decide) ?_
      refine lv_dup2_11 hx hb dX6_doDeliver_47 rfl rfl ?_
      refine r_ild (k := 90) (n := 91) (f := z1) hx hb hK hP 1 0 rfl rfl (by omega) (by omega) rfl dX6_doDeliver_48 ?_
      refine lv_aload_n hx hb dX6_doDeliver_49 rfl (lv_at hl 2 rfl) ?_
      refine va_get (v := .ref (A 1)) (C := RX6) (T := TX6) (N := 12) hx hb hts hinX6 hown hK hP 0 rfl rfl 1 (by decide) hf7 (fun _ h9 => h9) rfl dX6_doDeliver_50 ?_
      refine lv_bipush (v := (21 : Int32)) hx hb dX6_doDeliver_53 (by decide) ?_
      refine lv_iload_n hx hb dX6_doDeliver_55 rfl (lv_at hl 1 rfl) ?_
      refine lv_iadd hx hb dX6_doDeliver_56 ?_
      refine top_i (x' := nI (21 + i)) (nI_add (21) (i)) ?_
      refine r_ild (k := 21 + i) (n := 91) (f := z1) hx hb hK hP 1 0 rfl rfl (by omega) (by omega) rfl dX6_doDeliver_57 ?_
      refine lv_if_lt (tgt := 65) hx hb dX6_doDeliver_58 (by decide) (fun c_58 => ?_) (fun c_58 => ?_)
      · refine lv_iconst (v := (1 : Int32)) hx hb dX6_doDeliver_65 (by decide) ?_
        refine lv_iadd hx hb dX6_doDeliver_66 ?_
        refine r_ist (k := 90) (n := 91) (f := z1) hx hb hK hP hD hS 1 0 rfl rfl (by omega) (by omega) rfl dX6_doDeliver_67 (fun H locs hP hD hS => ?_)
        have hP : va_P G vwCl (cat [[(A 0, .inr (6, [.int (M.1), .ref (A 1), .ref (A 2), .int (nI (M.2.2.2.1)), .ref (A 3), .int (nI (M.2.2.2.2.2.1)), .ref (A 4), .ref (A 5), .ref (A 6), .ref (A 7), .int (M.2.2.2.2.2.2.2.2.2.2.1), .int (M.2.2.2.2.2.2.2.2.2.2.2)]))], [(A 1, .inl (cyI, 91, .inl (upd z1 90 ((z1 90) + ((1 : Int32))))))], [(A 2, .inl (cyI, 546, .inl (M.2.2.1)))], [(A 3, .inl (cyI, 60, .inl (M.2.2.2.2.1)))], [(A 4, .inl (cyI, 20, .inl (M.2.2.2.2.2.2.1)))], [(A 5, .inl (cyI, 6, .inl (M.2.2.2.2.2.2.2.1)))], [(A 6, .inl (cyI, 6, .inl (M.2.2.2.2.2.2.2.2.1)))], [(A 7, .inl (cyI, 6, .inl (M.2.2.2.2.2.2.2.2.2.1)))]]) H := hP
        have hD : va_D A9 (cat [[(A 0, .inr (6, [.int (M.1), .ref (A 1), .ref (A 2), .int (nI (M.2.2.2.1)), .ref (A 3), .int (nI (M.2.2.2.2.2.1)), .ref (A 4), .ref (A 5), .ref (A 6), .ref (A 7), .int (M.2.2.2.2.2.2.2.2.2.2.1), .int (M.2.2.2.2.2.2.2.2.2.2.2)]))], [(A 1, .inl (cyI, 91, .inl (upd z1 90 ((z1 90) + ((1 : Int32))))))], [(A 2, .inl (cyI, 546, .inl (M.2.2.1)))], [(A 3, .inl (cyI, 60, .inl (M.2.2.2.2.1)))], [(A 4, .inl (cyI, 20, .inl (M.2.2.2.2.2.2.1)))], [(A 5, .inl (cyI, 6, .inl (M.2.2.2.2.2.2.2.1)))], [(A 6, .inl (cyI, 6, .inl (M.2.2.2.2.2.2.2.2.1)))], [(A 7, .inl (cyI, 6, .inl (M.2.2.2.2.2.2.2.2.2.1)))]]) := hD
        refine lv_iinc (v := nI (i + 1)) (lv' := [(2, .int (nI (i + 1))), (1, .int (x + (z1 (1 + i)))), (0, .ref (A 0))]) hx hb dX6_doDeliver_68 hl (k := 1) rfl (nI_add _ _) (by decide) rfl (fun ls hl => ?_)
        refine lv_goto (tgt := 4) hx hb dX6_doDeliver_71 (by decide) ?_
        exact ih_4 (i + 1, upd z1 90 ((z1 90) + ((1 : Int32))), x + (z1 (1 + i))) (by show (n - (i + 1)) < (n - i); omega) _ _ _ ⟨(show (i + 1) ≤ n from by omega), (show (upd z1 90 ((z1 90) + ((1 : Int32)))) 0 = nI n from by rw [pk_un (by omega)]; exact hz1), (show ((upd z1 90 ((z1 90) + ((1 : Int32)))), (x + (z1 (1 + i)))) = itr (i + 1) dvStep (M.2.1, 0) from by show _ = dvStep i (itr i _ _); rw [← he]; first | (simp [dvStep, c_11, c_24, c_58]; done) | exact absurd c_24 c_58 | exact absurd c_58 c_24), hP, hD, hS, lv_sub hl [0, 1, 2] rfl⟩
      · refine lv_iconst (v := (0 : Int32)) hx hb dX6_doDeliver_61 (by decide) ?_
        refine lv_goto (tgt := 66) hx hb dX6_doDeliver_62 (by decide) ?_
        refine lv_iadd hx hb dX6_doDeliver_66 ?_
        refine r_ist (k := 90) (n := 91) (f := z1) hx hb hK hP hD hS 1 0 rfl rfl (by omega) (by omega) rfl dX6_doDeliver_67 (fun H locs hP hD hS => ?_)
        have hP : va_P G vwCl (cat [[(A 0, .inr (6, [.int (M.1), .ref (A 1), .ref (A 2), .int (nI (M.2.2.2.1)), .ref (A 3), .int (nI (M.2.2.2.2.2.1)), .ref (A 4), .ref (A 5), .ref (A 6), .ref (A 7), .int (M.2.2.2.2.2.2.2.2.2.2.1), .int (M.2.2.2.2.2.2.2.2.2.2.2)]))], [(A 1, .inl (cyI, 91, .inl (upd z1 90 ((z1 90) + ((0 : Int32))))))], [(A 2, .inl (cyI, 546, .inl (M.2.2.1)))], [(A 3, .inl (cyI, 60, .inl (M.2.2.2.2.1)))], [(A 4, .inl (cyI, 20, .inl (M.2.2.2.2.2.2.1)))], [(A 5, .inl (cyI, 6, .inl (M.2.2.2.2.2.2.2.1)))], [(A 6, .inl (cyI, 6, .inl (M.2.2.2.2.2.2.2.2.1)))], [(A 7, .inl (cyI, 6, .inl (M.2.2.2.2.2.2.2.2.2.1)))]]) H := hP
        have hD : va_D A9 (cat [[(A 0, .inr (6, [.int (M.1), .ref (A 1), .ref (A 2), .int (nI (M.2.2.2.1)), .ref (A 3), .int (nI (M.2.2.2.2.2.1)), .ref (A 4), .ref (A 5), .ref (A 6), .ref (A 7), .int (M.2.2.2.2.2.2.2.2.2.2.1), .int (M.2.2.2.2.2.2.2.2.2.2.2)]))], [(A 1, .inl (cyI, 91, .inl (upd z1 90 ((z1 90) + ((0 : Int32))))))], [(A 2, .inl (cyI, 546, .inl (M.2.2.1)))], [(A 3, .inl (cyI, 60, .inl (M.2.2.2.2.1)))], [(A 4, .inl (cyI, 20, .inl (M.2.2.2.2.2.2.1)))], [(A 5, .inl (cyI, 6, .inl (M.2.2.2.2.2.2.2.1)))], [(A 6, .inl (cyI, 6, .inl (M.2.2.2.2.2.2.2.2.1)))], [(A 7, .inl (cyI, 6, .inl (M.2.2.2.2.2.2.2.2.2.1)))]]) := hD
        refine lv_iinc (v := nI (i + 1)) (lv' := [(2, .int (nI (i + 1))), (1, .int (x + (z1 (1 + i)))), (0, .ref (A 0))]) hx hb dX6_doDeliver_68 hl (k := 1) rfl (nI_add _ _) (by decide) rfl (fun ls hl => ?_)
        refine lv_goto (tgt := 4) hx hb dX6_doDeliver_71 (by decide) ?_
        exact ih_4 (i + 1, upd z1 90 ((z1 90) + ((0 : Int32))), x + (z1 (1 + i))) (by show (n - (i + 1)) < (n - i); omega) _ _ _ ⟨(show (i + 1) ≤ n from by omega), (show (upd z1 90 ((z1 90) + ((0 : Int32)))) 0 = nI n from by rw [pk_un (by omega)]; exact hz1), (show ((upd z1 90 ((z1 90) + ((0 : Int32)))), (x + (z1 (1 + i)))) = itr (i + 1) dvStep (M.2.1, 0) from by show _ = dvStep i (itr i _ _); rw [← he]; first | (simp [dvStep, c_11, c_24, c_58]; done) | exact absurd c_24 c_58 | exact absurd c_58 c_24), hP, hD, hS, lv_sub hl [0, 1, 2] rfl⟩
abbrev rm_X6_goalOf : Room := { frames := 4, cells := 0, slots := 0, locals := 92 }
set_option maxHeartbeats 4000000 in
set_option maxRecDepth 100000 in
theorem c_X6_goalOf (l : Launch) (G : va_G) (cyI cyO : ClassId) (A : Nat → Nat) (M : MS) (n : Nat) (hM : MI M.2.1 n) (k : Nat) (hk : k < 20) : CI l G (TY cyI cyO) yX6_goalOf wsX6_goalOf rm_X6_goalOf [.ref (A 0), .int (nI (k))] [mdW cyI A M] (((mSh M n)).2.2.2.2.2.2.1 k) [mdW cyI A (mSh M n)] := by
  refine wk_I (cc := cX6_goalOf) (maxL := 2) (ret := (some .int)) (by decide) rfl (Nat.le_of_ble_eq_true rfl) ?_
  intro p9 e9 s9 m9 b9 t9 c9 A9 ls hx hb hr hts hown hlocks hml hK hA hD hP hl hS hnm
  have hl : lv_has ls 2 [(0, .ref (A 0)), (1, .int (nI (k)))] := hl
  have hinX6 : ∀ w ∈ wsX60, w ∈ wsX6_goalOf := by decide +kernel
  have hf19 := hts (.fieldLink RX6 19 "DoorstepRoundsModel" "goal" "[I") (by decide +kernel)
  have hz : M.2.1 0 = nI n := hM.1
  have hn : n ≤ 20 := hM.2.1
  have hWk := hM.2.2.1
  have hOw := hM.2.2.2
  refine lv_aload_n hx hb dX6_goalOf_0 rfl (lv_at hl 0 rfl) ?_
  refine gVi (gs := [mdW cyI A M]) (As := []) (rest := []) ⟨hx, hb, hml, hown, hts⟩ (c_X6_share l G cyI cyO A M n hM) (cwV 0 hts gX6_goalOf_X6_share rfl rfl rfl (by decide +kernel) ⟨Nat.le_of_ble_eq_true rfl, Nat.le_of_ble_eq_true rfl⟩) hK hP hD hS hA [0] rfl rfl rfl 0 6 rfl rfl rfl hl.1 rfl (Nat.le_of_ble_eq_true rfl) dX6_goalOf_1 ⟨Nat.le_refl _, Nat.le_refl _⟩ (fun H locs hP hD hS => ?_)
  have hP : va_P G vwCl (cat [mdW cyI A (mSh M n)]) H := hP
  have hD : va_D A9 (cat [mdW cyI A (mSh M n)]) := hD
  refine lv_pop hx hb dX6_goalOf_4 rfl ?_
  refine lv_aload_n hx hb dX6_goalOf_5 rfl (lv_at hl 0 rfl) ?_
  refine va_get (v := .ref (A 4)) (C := RX6) (T := TX6) (N := 12) hx hb hts hinX6 hown hK hP 0 rfl rfl 6 (by decide) hf19 (fun _ h9 => h9) rfl dX6_goalOf_6 ?_
  refine lv_iload_n hx hb dX6_goalOf_9 rfl (lv_at hl 1 rfl) ?_
  refine r_ild (k := k) (n := 20) (f := (mSh M n).2.2.2.2.2.2.1) hx hb hK hP 4 0 rfl rfl (by omega) (by omega) rfl dX6_goalOf_10 ?_
  have hP : va_P G vwCl (cat [mdW cyI A (mSh M n)]) H := hP
  have hD : va_D A9 (cat [mdW cyI A (mSh M n)]) := hD
  exact end_i hx hb hr hlocks hK hP hD hS (rfl) dX6_goalOf_11
abbrev rm_X6_reasonOf : Room := { frames := 5, cells := 0, slots := 0, locals := 113 }
set_option maxHeartbeats 4000000 in
set_option maxRecDepth 100000 in
theorem c_X6_reasonOf (l : Launch) (G : va_G) (cyI cyO : ClassId) (A : Nat → Nat) (M : MS) (n : Nat) (hM : MI M.2.1 n) (k : Nat) (hk : k < n) : CI l G (TY cyI cyO) yX6_reasonOf wsX6_reasonOf rm_X6_reasonOf [.ref (A 0), .int (nI (k))] [mdW cyI A M] (mReaR M n k) [mdW cyI A (mRea M n k)] := by
  refine wk_I (cc := cX6_reasonOf) (maxL := 3) (ret := (some .int)) (by decide) rfl (Nat.le_of_ble_eq_true rfl) ?_
  intro p9 e9 s9 m9 b9 t9 c9 A9 ls hx hb hr hts hown hlocks hml hK hA hD hP hl hS hnm
  have hl : lv_has ls 3 [(0, .ref (A 0)), (1, .int (nI (k)))] := hl
  have hinX6 : ∀ w ∈ wsX60, w ∈ wsX6_reasonOf := by decide +kernel
  have hf7 := hts (.fieldLink RX6 7 "DoorstepRoundsModel" "z" "[I") (by decide +kernel)
  have hz : M.2.1 0 = nI n := hM.1
  have hn : n ≤ 20 := hM.2.1
  have hWk := hM.2.2.1
  have hOw := hM.2.2.2
  have hw6 := cW_le (zW M.2.1)
  refine lv_aload_n hx hb dX6_reasonOf_0 rfl (lv_at hl 0 rfl) ?_
  refine gVi (gs := [mdW cyI A M]) (As := []) (rest := []) ⟨hx, hb, hml, hown, hts⟩ (c_X6_men l G cyI cyO A M n hM) (cwV 0 hts gX6_reasonOf_X6_men rfl rfl rfl (by decide +kernel) ⟨Nat.le_of_ble_eq_true rfl, Nat.le_of_ble_eq_true rfl⟩) hK hP hD hS hA [0] rfl rfl rfl 0 6 rfl rfl rfl hl.1 rfl (Nat.le_of_ble_eq_true rfl) dX6_reasonOf_1 ⟨Nat.le_refl _, Nat.le_refl _⟩ (fun H locs hP hD hS => ?_)
  have hP : va_P G vwCl (cat [mdW cyI A M]) H := hP
  have hD : va_D A9 (cat [mdW cyI A M]) := hD
  refine lv_if_ne (tgt := 9) hx hb dX6_reasonOf_4 (by decide) (fun c_4 => ?_) (fun c_4 => ?_)
  · have c_4 : ¬ (cW (zW M.2.1)) = (0) := fun h9 => c_4 ((nI_eq (a := cW (zW M.2.1)) (b := 0) (by omega) (by omega)).mpr h9)
    refine lv_aload_n hx hb dX6_reasonOf_9 rfl (lv_at hl 0 rfl) ?_
    refine va_get (v := .ref (A 1)) (C := RX6) (T := TX6) (N := 12) hx hb hts hinX6 hown hK hP 0 rfl rfl 1 (by decide) hf7 (fun _ h9 => h9) rfl dX6_reasonOf_10 ?_
    refine lv_bipush (v := (21 : Int32)) hx hb dX6_reasonOf_13 (by decide) ?_
    refine lv_iload_n hx hb dX6_reasonOf_15 rfl (lv_at hl 1 rfl) ?_
    refine lv_iadd hx hb dX6_reasonOf_16 ?_
    refine top_i (x' := nI (21 + k)) (nI_add (21) (k)) ?_
    refine r_ild (k := 21 + k) (n := 91) (f := M.2.1) hx hb hK hP 1 0 rfl rfl (by omega) (by omega) rfl dX6_reasonOf_17 ?_
    refine lv_istore_n (lv' := [(2, .int (M.2.1 (21 + k))), (0, .ref (A 0)), (1, .int (nI (k)))]) hx hb dX6_reasonOf_18 rfl hl (by decide) rfl (fun ls hl => ?_)
    refine lv_iload_n hx hb dX6_reasonOf_19 rfl (lv_at hl 0 rfl) ?_
    refine lv_if_ge (tgt := 27) hx hb dX6_reasonOf_20 (by decide) (fun c_20 => ?_) (fun c_20 => ?_)
    · refine lv_aload_n hx hb dX6_reasonOf_27 rfl (lv_at hl 1 rfl) ?_
      refine lv_iload_n hx hb dX6_reasonOf_28 rfl (lv_at hl 2 rfl) ?_
      refine gVi (gs := [mdW cyI A M]) (As := [.int (nI (k))]) (rest := []) ⟨hx, hb, hml, hown, hts⟩ (c_X6_goalOf l G cyI cyO A M n hM k (by omega)) (cwV 1 hts gX6_reasonOf_X6_goalOf rfl rfl rfl (by decide +kernel) ⟨Nat.le_of_ble_eq_true rfl, Nat.le_of_ble_eq_true rfl⟩) hK hP hD hS hA [0] rfl rfl rfl 0 6 rfl rfl rfl hl.1 rfl (Nat.le_of_ble_eq_true rfl) dX6_reasonOf_29 ⟨Nat.le_refl _, Nat.le_refl _⟩ (fun H locs hP hD hS => ?_)
      have hP : va_P G vwCl (cat [mdW cyI A (mSh M n)]) H := hP
      have hD : va_D A9 (cat [mdW cyI A (mSh M n)]) := hD
      refine lv_iload_n hx hb dX6_reasonOf_32 rfl (lv_at hl 0 rfl) ?_
      refine lv_icmp_ne (tgt := 40) hx hb dX6_reasonOf_33 (by decide) (fun c_33 => ?_) (fun c_33 => ?_)
      · refine lv_iconst (v := (3 : Int32)) hx hb dX6_reasonOf_40 (by decide) ?_
        have hgo : cat [mdW cyI A (mSh M n)] = cat [mdW cyI A (mRea M n k)] := by simp [mRea, c_4, c_20, c_33]
        rw [hgo] at hP hD
        have hP : va_P G vwCl (cat [mdW cyI A (mRea M n k)]) H := hP
        have hD : va_D A9 (cat [mdW cyI A (mRea M n k)]) := hD
        exact end_i hx hb hr hlocks hK hP hD hS (by simp [mReaR, c_4, c_20, c_33]) dX6_reasonOf_41
      · refine lv_iconst (v := (0 : Int32)) hx hb dX6_reasonOf_36 (by decide) ?_
        refine lv_goto (tgt := 41) hx hb dX6_reasonOf_37 (by decide) ?_
        have hgo : cat [mdW cyI A (mSh M n)] = cat [mdW cyI A (mRea M n k)] := by simp [mRea, c_4, c_20, c_33]
        rw [hgo] at hP hD
        have hP : va_P G vwCl (cat [mdW cyI A (mRea M n k)]) H := hP
        have hD : va_D A9 (cat [mdW cyI A (mRea M n k)]) := hD
        exact end_i hx hb hr hlocks hK hP hD hS (by simp [mReaR, c_4, c_20, c_33]) dX6_reasonOf_41
    · refine lv_iconst (v := (2 : Int32)) hx hb dX6_reasonOf_23 (by decide) ?_
      refine lv_goto (tgt := 41) hx hb dX6_reasonOf_24 (by decide) ?_
      have hgo : cat [mdW cyI A M] = cat [mdW cyI A (mRea M n k)] := by simp [mRea, c_4, c_20]
      rw [hgo] at hP hD
      have hP : va_P G vwCl (cat [mdW cyI A (mRea M n k)]) H := hP
      have hD : va_D A9 (cat [mdW cyI A (mRea M n k)]) := hD
      exact end_i hx hb hr hlocks hK hP hD hS (by simp [mReaR, c_4, c_20]) dX6_reasonOf_41
  · have c_4 : (cW (zW M.2.1)) = (0) := (nI_eq (a := cW (zW M.2.1)) (b := 0) (by omega) (by omega)).mp c_4
    refine lv_iconst (v := (1 : Int32)) hx hb dX6_reasonOf_7 (by decide) ?_
    have hgo : cat [mdW cyI A M] = cat [mdW cyI A (mRea M n k)] := by simp [mRea, c_4]
    rw [hgo] at hP hD
    have hP : va_P G vwCl (cat [mdW cyI A (mRea M n k)]) H := hP
    have hD : va_D A9 (cat [mdW cyI A (mRea M n k)]) := hD
    exact end_i hx hb hr hlocks hK hP hD hS (by simp [mReaR, c_4]) dX6_reasonOf_8

/-! ===== what is asked: both sides alike ===== -/
theorem ch_eq {D T : DS} {S : SS} {M : MS} {k : Nat} (h : RS D M.2.1) (hk : k < 6) : shRes S (dSw T D k) = (mChB M D.2.2.2.2.2.1 k).2 := by
  have hc := h.copy (D := T)
  have hw : (dCopy T D).2.2.1 k = M.2.1 (81 + k) := (hc.2.2.2 k hk).symm
  unfold dSw mChB
  rw [hw]
  by_cases c : M.2.1 (81 + k) = 1
  · rw [if_pos c, if_pos c]
    exact share_res (M := mZ M (dlAll D.2.2.2.2.2.1 (nI k) (upd M.2.1 (81 + k) 0))) (hc.leave hk)
  · rw [if_neg c, if_neg c]
    exact share_res (M := mZ M (upd M.2.1 (81 + k) 1)) (hc.come hk)
theorem rea_eq {D : DS} {S : SS} {M : MS} {k : Nat} (h : RD D M.2.1) (hk : k < D.2.2.2.2.2.1) : rsn (shOut S D) D k = mReaR M D.2.2.2.2.2.1 k := by
  have hout := share_out (S := S) (M := M) h.rs k hk
  have hO := h.1.2.2.2.1
  unfold rsn mReaR
  rw [h.rs.cw, (h.2.1 k hk).2]
  by_cases c : cW D.2.2.1 = 0
  · rw [if_pos c, if_pos c]
  · rw [if_neg c, if_neg c]
    have hw' : 0 < cW (zW M.2.1) := by rw [h.rs.cw]; omega
    obtain ⟨q, ⟨hq, -⟩, eq⟩ := mWl_ok h.1.mi hO hw' k hk
    rw [hout, mSh_goal hw', eq]
    have hv := hO k hk
    rw [(h.2.1 k hk).2] at hv
    rcases hv.va with h1 | ⟨j, hj, h1⟩
    · rw [h1, if_neg (nI_n1 (by omega)), if_pos rfl, if_neg (by decide)]
    · rw [h1, if_pos (nI_pos' (by omega))]
      by_cases c2 : nI j = nI q
      · rw [if_pos c2, if_pos c2.symm]
      · rw [if_neg c2, if_neg (nI_n1' (by omega)), if_neg fun h9 => c2 h9.symm]
theorem plan_eq {D : DS} {z : Nat → Int32} {k : Nat} (h : RD D z) (hk : k < D.2.2.2.2.2.1) : dPlan D k = if z 87 ≤ 0 then z (21 + k) else z (41 + k) := by
  unfold dPlan
  by_cases c : z 87 = 0
  · rw [if_neg (by rw [h.ho0.mpr c]; decide), if_pos ((i32_pos h.1.st).2.mpr c)]; exact ((h.2.1 k hk).2).symm
  · rw [if_pos (h.ho1.mpr c), if_neg fun h9 => c ((i32_pos h.1.st).2.mp h9)]; exact ((h.2.2.2.2.2.2.2 c k hk).1).symm
/-- who is not at work has no round -/
theorem off_0 {D : DS} {z : Nat → Int32} (h : RD D z) {m : Nat} (hm : m < 6) (hw : ¬ D.2.2.1 m = 1) : rSz D.2.1 D.2.2.2.2.2.1 (nI m) = 0 := by
  rw [rSz_cnt, cnt_zero fun d hd => ?_]
  refine decide_eq_false fun h9 => ?_
  have hv := h.1.2.2.2.1 d hd
  rw [(h.2.1 d hd).2, h9] at hv
  rcases hv with h1 | ⟨k, ⟨hk, h2⟩, h3⟩
  · exact nI_n1' (by omega) h1
  · have e := (nI_eq (by omega) (by omega)).mp h3
    subst e
    rw [h.2.2.1 m hm] at h2
    exact hw h2
theorem df_un {D : DS} {z : Nat → Int32} (h : RD D z) : ∀ i, i ≤ 6 → (itr i (dfStep D.2.1 D.2.2.1 D.2.2.2.2.2.1) (0, 20)).1 = (itr i (unStep z D.2.2.2.2.2.1) (20, 0)).2 ∧ (itr i (dfStep D.2.1 D.2.2.1 D.2.2.2.2.2.1) (0, 20)).2 = (itr i (unStep z D.2.2.2.2.2.1) (20, 0)).1 := by
  intro i
  induction i with
  | zero => intro _; exact ⟨rfl, rfl⟩
  | succ i ih =>
    intro hi
    obtain ⟨x1, x2⟩ := ih (by omega)
    show (dfStep D.2.1 D.2.2.1 D.2.2.2.2.2.1 i (itr i (dfStep D.2.1 D.2.2.1 D.2.2.2.2.2.1) (0, 20))).1 = (unStep z D.2.2.2.2.2.1 i (itr i (unStep z D.2.2.2.2.2.1) (20, 0))).2 ∧ (dfStep D.2.1 D.2.2.1 D.2.2.2.2.2.1 i (itr i (dfStep D.2.1 D.2.2.1 D.2.2.2.2.2.1) (0, 20))).2 = (unStep z D.2.2.2.2.2.1 i (itr i (unStep z D.2.2.2.2.2.1) (20, 0))).1
    generalize itr i (dfStep D.2.1 D.2.2.1 D.2.2.2.2.2.1) (0, 20) = q at x1 x2
    generalize itr i (unStep z D.2.2.2.2.2.1) (20, 0) = w at x1 x2
    unfold dfStep unStep
    rw [h.2.2.1 i (by omega), h.rs.sz]
    by_cases c : D.2.2.1 i = 1
    · rw [if_pos c, if_pos c, x1, x2]; exact ⟨rfl, rfl⟩
    · rw [if_neg c, if_neg c, off_0 h (by omega) c, if_pos (Nat.zero_le _)]; exact ⟨x1, x2⟩
theorem div_0 : ∀ n, n < 21 → 0 < n → FP.ddiv (FP.i2d (nI 0)) (FP.i2d (nI n)) = FP.dconst0 := by decide +kernel
theorem une_eq {D : DS} {z : Nat → Int32} (h : RD D z) : uneX D = mUne z D.2.2.2.2.2.1 := by
  have hn := h.n20
  unfold uneX mUne
  rw [h.rs.cw]
  obtain ⟨x1, x2⟩ := df_un h 6 (Nat.le_refl _)
  have hr : rDiff D.2.1 D.2.2.1 D.2.2.2.2.2.1 = (unAll z D.2.2.2.2.2.1).2 - (unAll z D.2.2.2.2.2.1).1 := by
    have y1 : (dfAll D.2.1 D.2.2.1 D.2.2.2.2.2.1).1 = (unAll z D.2.2.2.2.2.1).2 := x1
    have y2 : (dfAll D.2.1 D.2.2.1 D.2.2.2.2.2.1).2 = (unAll z D.2.2.2.2.2.1).1 := x2
    unfold rDiff
    rw [y1, y2]
    split <;> omega
  by_cases c0 : D.2.2.2.2.2.1 = 0
  · rw [if_pos c0]
    split
    · rfl
    · first | rfl | rw [if_pos c0]
  · rw [if_neg c0]
    by_cases c : cW D.2.2.1 = 0
    · rw [if_pos c]
      have h0 : rDiff D.2.1 D.2.2.1 D.2.2.2.2.2.1 = 0 := by
        have key : ∀ i, i ≤ 6 → itr i (dfStep D.2.1 D.2.2.1 D.2.2.2.2.2.1) (0, 20) = (0, 20) := by
          intro i
          induction i with
          | zero => intro _; rfl
          | succ i ih =>
            intro hi
            show dfStep D.2.1 D.2.2.1 D.2.2.2.2.2.1 i (itr i (dfStep D.2.1 D.2.2.1 D.2.2.2.2.2.1) (0, 20)) = (0, 20)
            rw [ih (by omega)]
            unfold dfStep
            rw [if_neg fun h9 => ?_]
            have : 0 < cW D.2.2.1 := by
              have e : cW D.2.2.1 = cnt 6 (fun m => decide (D.2.2.1 m = 1)) := itr_congr 6 0 fun m hm x => by
                show (if D.2.2.1 m = 1 then x + 1 else x) = if decide (D.2.2.1 m = 1) = true then x + 1 else x
                by_cases c : D.2.2.1 m = 1
                · rw [if_pos c, decide_eq_true c, if_pos rfl]
                · rw [if_neg c, decide_eq_false c, if_neg (by decide)]
              rw [e]
              have := cnt_strict (n := 6) (m := i) (P := fun _ => false) (Q := fun m => decide (D.2.2.1 m = 1)) (fun o _ h => by cases h) (by omega) (decide_eq_true h9) (by decide)
              omega
            omega
        have k6 := key 6 (Nat.le_refl _)
        have y : dfAll D.2.1 D.2.2.1 D.2.2.2.2.2.1 = (0, 20) := k6
        unfold rDiff
        rw [y]; rfl
      rw [h0]
      exact div_0 _ (by omega) (by omega)
    · rw [if_neg c, hr]
      first | rfl | rw [if_neg c0]
theorem bI_w {D : DS} {z : Nat → Int32} (h : RD D z) {m : Nat} (hm : m < 6) : bI (decide (D.2.2.1 m = 1)) = z (81 + m) := by
  have := h.1.2.2.1 m hm
  rw [h.2.2.1 m hm] at this ⊢
  rcases this with e | e
  · rw [e]; decide
  · rw [e]; decide
theorem dg0_eq {D : DS} {S : SS} {M : MS} (h : RD D M.2.1) : dgA S D = mDg0 M D.2.2.2.2.2.1 := by
  unfold dgA mDg0 mixI
  rw [share_res (M := mT M 0) (S := S) h.rs, ← h.2.2.2.1, ← h.2.2.2.2.1, ← h.2.2.2.2.2.1, ← h.2.2.2.2.2.2.1]
theorem dgM_eq {D : DS} {z : Nat → Int32} {x : Int64} {S : SS} {T : DS} {M : MS} (hz : M.2.1 = z) (h : RD D z) : ∀ i, i ≤ 6 → (itr i (mmStep D) (x, S, T)).1 = (itr i (dgM D.2.2.2.2.2.1) (M, x)).2 ∧ (itr i (dgM D.2.2.2.2.2.1) (M, x)).1.2.1 = z := by
  intro i
  induction i with
  | zero => intro _; exact ⟨rfl, hz⟩
  | succ i ih =>
    intro hi
    obtain ⟨x1, x2⟩ := ih (by omega)
    show (mmStep D i (itr i (mmStep D) (x, S, T))).1 = (dgM D.2.2.2.2.2.1 i (itr i (dgM D.2.2.2.2.2.1) (M, x))).2 ∧ (dgM D.2.2.2.2.2.1 i (itr i (dgM D.2.2.2.2.2.1) (M, x))).1.2.1 = z
    generalize itr i (mmStep D) (x, S, T) = q at x1
    generalize itr i (dgM D.2.2.2.2.2.1) (M, x) = w at x1 x2
    obtain ⟨q1, qS, qT⟩ := q
    obtain ⟨w1, w2⟩ := w
    dsimp only at x1 x2
    subst x2
    have hs := h.rs.sz (nI i)
    have hl := h.rs.ld (nI i)
    unfold mmStep dgM mixI
    dsimp only
    rw [bI_w h (by omega), hs, hl, ch_eq (M := w1) h.rs (by omega), x1]
    exact ⟨rfl, mChB_z _ _ _⟩
theorem dgD_eq {D : DS} {z : Nat → Int32} {x : Int64} {S : SS} {M : MS} (hz : M.2.1 = z) (h : RD D z) : ∀ i, i ≤ D.2.2.2.2.2.1 → itr i (mdStep (shOut S D) D) x = (itr i (dgD D.2.2.2.2.2.1) (M, x)).2 ∧ (itr i (dgD D.2.2.2.2.2.1) (M, x)).1.2.1 = z := by
  intro i
  induction i with
  | zero => intro _; exact ⟨rfl, hz⟩
  | succ i ih =>
    intro hi
    obtain ⟨x1, x2⟩ := ih (by omega)
    show mdStep (shOut S D) D i (itr i (mdStep (shOut S D) D) x) = (dgD D.2.2.2.2.2.1 i (itr i (dgD D.2.2.2.2.2.1) (M, x))).2 ∧ (dgD D.2.2.2.2.2.1 i (itr i (dgD D.2.2.2.2.2.1) (M, x))).1.2.1 = z
    generalize itr i (mdStep (shOut S D) D) x = q at x1
    generalize itr i (dgD D.2.2.2.2.2.1) (M, x) = w at x1 x2
    obtain ⟨w1, w2⟩ := w
    dsimp only at x1 x2
    subst x2
    subst x1
    have e1 := (h.2.1 i (by omega)).1
    have e2 := (h.2.1 i (by omega)).2
    have e3 := plan_eq h (k := i) (by omega)
    have e4 := share_out (S := S) (M := w1) h.rs i (by omega)
    have hz2 : (mSh w1 D.2.2.2.2.2.1).2.1 = w1.2.1 := mSh_z _ _
    have e5 := rea_eq (S := S) (M := mSh w1 D.2.2.2.2.2.1) (k := i) (D := D) (by rw [hz2]; exact h) (by omega)
    unfold mdStep dgD mixI
    dsimp only
    rw [e3, e4, e5, e1, e2]
    exact ⟨rfl, (mRea_z _ _ _).trans hz2⟩
theorem dig_eq {D T : DS} {S qS : SS} {qT : DS} {q1 : Int64} {M : MS} (h : RD D M.2.1) (hq : mmAll D (dgA S D) (shOut S D) T = (q1, qS, qT)) : mdAll (shOut qS D) D q1 = (mDig M D.2.2.2.2.2.1).2 ∧ (mDig M D.2.2.2.2.2.1).1.2.1 = M.2.1 := by
  have hz0 : (mSh (mT M 0) D.2.2.2.2.2.1).2.1 = M.2.1 := mSh_z _ _
  obtain ⟨x1, x2⟩ := dgM_eq (x := dgA S D) (S := shOut S D) (T := T) hz0 h 6 (Nat.le_refl _)
  have hq' : itr 6 (mmStep D) (dgA S D, shOut S D, T) = (q1, qS, qT) := hq
  rw [hq'] at x1
  unfold mDig mdAll
  rw [← dg0_eq (S := S) h]
  generalize itr 6 (dgM D.2.2.2.2.2.1) (mSh (mT M 0) D.2.2.2.2.2.1, dgA S D) = w at x1 x2 ⊢
  obtain ⟨w1, w2⟩ := w
  dsimp only at x1 x2
  subst x1
  exact dgD_eq (x := q1) (S := qS) x2 h D.2.2.2.2.2.1 (Nat.le_refl _)

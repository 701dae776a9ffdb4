/-! ===== refusals and runs: both sides alike ===== -/
theorem RD.ho {D : DS} {z : Nat → Int32} (h : RD D z) : dHO D = !decide (z 87 = 0) := by unfold dHO; rw [h.2.2.2.1]
theorem RD.ho0 {D : DS} {z : Nat → Int32} (h : RD D z) : dHO D = false ↔ z 87 = 0 := by rw [h.ho]; simp
theorem RD.ho1 {D : DS} {z : Nat → Int32} (h : RD D z) : dHO D = true ↔ ¬ z 87 = 0 := by rw [h.ho]; simp
theorem nI_m1 {n : Nat} (hn : n ≤ 20) : (nI n - 1).toInt = (n : Int) - 1 := by
  cases n with
  | zero => decide +kernel
  | succ n => rw [nI_pred, nI_toInt (by omega)]; omega
theorem has_eq {n : Nat} (hn : n ≤ 20) (x : Int32) : mHas n x = dHas n x := by
  unfold mHas isDig dHas
  have e : (nI n - 1 < x) ↔ nI n ≤ x := by
    rw [Int32.lt_iff_toInt_lt, Int32.le_iff_toInt_le, nI_m1 hn, nI_toInt (by omega)]; omega
  by_cases c : nI n ≤ x
  · rw [decide_eq_true c, decide_eq_true (e.mpr c)]
  · rw [decide_eq_false c, decide_eq_false fun h => c (e.mp h)]
theorem dHas_nat {n : Nat} {x : Int32} (hn : n ≤ 20) (h : dHas n x = true) : ∃ k, k < n ∧ x = nI k := mHas_nat hn (by rw [has_eq hn]; exact h)
theorem RD.noAdd {D : DS} {z : Nat → Int32} (h : RD D z) {p : Nat} (hp : 1 ≤ p ∧ p ≤ 9) : mNoAdd z D.2.2.2.2.2.1 (nI p) = if (!dHO D && decide (D.2.2.2.2.2.1 < 20)) = true then 0 else 2 := by
  have hn := h.n20
  have hd : isDig (nI p) 1 9 = true := (dig_t (a := 1) (b := 9) (by omega) (by omega) (by omega)).mpr hp
  unfold mNoAdd
  rw [if_pos hd, h.ho]
  by_cases c : z 87 = 0
  · rw [if_neg (fun h9 => ((i32_pos h.1.st).1.mp h9) c), decide_eq_true c]
    by_cases c2 : D.2.2.2.2.2.1 = 20
    · rw [if_pos c2, decide_eq_false (by omega), if_neg (by decide)]
    · rw [if_neg c2, decide_eq_true (by omega), if_pos (by decide)]
  · rw [if_pos ((i32_pos h.1.st).1.mpr c), decide_eq_false c, if_neg (by simp)]
theorem RD.noRem {D : DS} {z : Nat → Int32} (h : RD D z) (x : Int32) : mNoRem z D.2.2.2.2.2.1 x = if dHas D.2.2.2.2.2.1 x = true then (if dHO D = true then 2 else 0) else 1 := by
  unfold mNoRem
  rw [has_eq h.n20]
  by_cases c : dHas D.2.2.2.2.2.1 x = true
  · rw [if_pos c, if_pos c]
    by_cases c2 : z 87 = 0
    · rw [if_pos ((i32_pos h.1.st).2.mpr c2), if_neg (by rw [h.ho0.mpr c2]; decide)]
    · rw [if_neg (fun h9 => c2 ((i32_pos h.1.st).2.mp h9)), if_pos (h.ho1.mpr c2)]
  · rw [if_neg c, if_neg c]
theorem dig05 {k : Nat} (hk : k < 6) : isDig (nI k) 0 5 = true := (dig_t (a := 0) (b := 5) (by omega) (by omega) (by omega)).mpr ⟨by omega, by omega⟩
theorem RD.noCome {D : DS} {z : Nat → Int32} (h : RD D z) {k : Nat} (hk : k < 6) : mNoCome z (nI k) = if (!dHO D && !decide (D.2.2.1 k = 1)) = true then 0 else 2 := by
  unfold mNoCome
  rw [if_pos (dig05 hk), nI_clamp (by omega), h.2.2.1 k hk, h.ho]
  by_cases c : z 87 = 0
  · rw [if_neg (fun h9 => ((i32_pos h.1.st).1.mp h9) c), decide_eq_true c]
    by_cases c2 : D.2.2.1 k = 1
    · rw [if_pos c2, decide_eq_true c2, if_neg (by decide)]
    · rw [if_neg c2, decide_eq_false c2, if_pos (by decide)]
  · rw [if_pos ((i32_pos h.1.st).1.mpr c), decide_eq_false c, if_neg (by simp)]
theorem RD.noLeave {D : DS} {z : Nat → Int32} (h : RD D z) {k : Nat} (hk : k < 6) : mNoLeave z (nI k) = if (!dHO D && decide (D.2.2.1 k = 1)) = true then 0 else 2 := by
  unfold mNoLeave
  rw [if_pos (dig05 hk), nI_clamp (by omega), h.2.2.1 k hk, h.ho]
  by_cases c : z 87 = 0
  · rw [if_neg (fun h9 => ((i32_pos h.1.st).1.mp h9) c), decide_eq_true c]
    by_cases c2 : D.2.2.1 k = 1
    · rw [if_pos c2, decide_eq_true c2, if_pos (by decide)]
    · rw [if_neg c2, decide_eq_false c2, if_neg (by decide)]
  · rw [if_pos ((i32_pos h.1.st).1.mpr c), decide_eq_false c, if_neg (by simp)]
theorem RD.noPlan {D : DS} {z : Nat → Int32} (h : RD D z) : mNoPlan z = if (!dHO D && decide (0 < cW D.2.2.1)) = true then 0 else 1 := by
  unfold mNoPlan
  rw [h.rs.cw, h.ho]
  by_cases c : z 87 = 0
  · rw [if_neg (fun h9 => ((i32_pos h.1.st).1.mp h9) c), decide_eq_true c]
    by_cases c2 : cW D.2.2.1 = 0
    · rw [if_pos c2, decide_eq_false (by omega), if_neg (by decide)]
    · rw [if_neg c2, decide_eq_true (by omega), if_pos (by decide)]
  · rw [if_pos ((i32_pos h.1.st).1.mpr c), decide_eq_false c, if_neg (by simp)]
theorem RD.noHand {D : DS} {z : Nat → Int32} (h : RD D z) : mNoHand z = if dHO D = true then 0 else 1 := by
  unfold mNoHand
  by_cases c : z 87 = 0
  · rw [if_pos c, if_neg (by rw [h.ho0.mpr c]; decide)]
  · rw [if_neg c, if_pos (h.ho1.mpr c)]
theorem if_02 {p : Prop} [Decidable p] {w : Int32} (hw : ¬ w = 0) : (if p then (0 : Int32) else w) = 0 ↔ p := by
  by_cases c : p
  · rw [if_pos c]; exact ⟨fun _ => c, fun _ => rfl⟩
  · rw [if_neg c]; exact ⟨fun h => absurd h hw, fun h => absurd h c⟩
theorem part_sim {D : DS} {S : SS} {M : MS} {v : Nat} (h : RD D M.2.1) (hok : okR 5 M.2.2.2.2.2.2.2.2.2.2.1 v) (hnu : (M.2.2.2.2.2.2.2.2.2.2.1 = 43 ∨ M.2.2.2.2.2.2.2.2.2.2.1 = 45 ∨ M.2.2.2.2.2.2.2.2.2.2.1 = 99 ∨ M.2.2.2.2.2.2.2.2.2.2.1 = 108) → M.2.2.2.2.2.2.2.2.2.2.2 = nI v) :
    (pMay D M.2.2.2.2.2.2.2.2.2.2.1 v = true ↔ mNoPart M D.2.2.2.2.2.1 = 0) ∧ (pMay D M.2.2.2.2.2.2.2.2.2.2.1 v = true → RD (pDo S D M.2.2.2.2.2.2.2.2.2.2.1 v).2 (mDoPart M D.2.2.2.2.2.1).1.2.1) := by
  have hn := h.n20
  have hS := share_out (S := S) (M := M) h.rs
  have hRP := h.plan (S := S) (M := M)
  obtain ⟨th, z, sv, sn, tx, ln, go, qu, gv, pb, u, nu⟩ := M
  dsimp only at h hok hnu hRP ⊢
  have ho := h.ho
  rcases hok with ⟨h5, -⟩ | ⟨h5, -⟩ | ⟨h5, -⟩ | ⟨h5, -⟩ | ⟨h5, -⟩ | ⟨-, hk⟩
  · exact absurd h5 (by decide)
  · exact absurd h5 (by decide)
  · exact absurd h5 (by decide)
  · exact absurd h5 (by decide)
  · exact absurd h5 (by decide)
  rcases hk with ⟨rfl, hv⟩ | ⟨rfl, hv⟩ | ⟨hu, hv⟩ | ⟨hu, rfl⟩
  · have hnu9 := hnu (Or.inl rfl)
    subst hnu9
    have e1 : mNoPart (th, z, sv, sn, tx, ln, go, qu, gv, pb, 43, nI v) D.2.2.2.2.2.1 = mNoAdd z D.2.2.2.2.2.1 (nI v) := if_pos rfl
    rw [e1, h.noAdd hv, pMay_43 D v rfl, if_02 (by decide)]
    refine ⟨Iff.rfl, fun hm => ?_⟩
    rw [pDo_43 S D v rfl]
    have hm2 : dHO D = false ∧ D.2.2.2.2.2.1 < 20 := by simpa using hm
    exact h.add (h.ho0.mp hm2.1) hm2.2 hv
  · have hnu9 := hnu (Or.inr (Or.inl rfl))
    subst hnu9
    have e1 : mNoPart (th, z, sv, sn, tx, ln, go, qu, gv, pb, 45, nI v) D.2.2.2.2.2.1 = mNoRem z D.2.2.2.2.2.1 (nI v) := rfl
    rw [e1, h.noRem, pMay_45 D v rfl]
    have hi : (if dHas D.2.2.2.2.2.1 (nI v) = true then (if dHO D = true then (2 : Int32) else 0) else 1) = 0 ↔ (dHas D.2.2.2.2.2.1 (nI v) && !dHO D) = true := by
      cases dHas D.2.2.2.2.2.1 (nI v) <;> cases dHO D <;> decide
    refine ⟨hi.symm, fun hm => ?_⟩
    rw [pDo_45 S D v rfl]
    have hlt := mayRem_lt (by omega) hn hm
    have hm2 : dHas D.2.2.2.2.2.1 (nI v) = true ∧ dHO D = false := by simpa using hm
    have e2 : (mDoPart (th, z, sv, sn, tx, ln, go, qu, gv, pb, 45, nI v) D.2.2.2.2.2.1).1.2.1 = rmAll z D.2.2.2.2.2.1 (nI v).toNatClampNeg := rfl
    rw [e2, nI_clamp (by omega)]
    exact h.rem (h.ho0.mp hm2.2) hlt
  · rcases hu with rfl | rfl
    · have hnu9 := hnu (Or.inr (Or.inr (Or.inl rfl)))
      subst hnu9
      have e1 : mNoPart (th, z, sv, sn, tx, ln, go, qu, gv, pb, 99, nI v) D.2.2.2.2.2.1 = mNoCome z (nI v) := rfl
      rw [e1, h.noCome hv, pMay_99 D v rfl, if_02 (by decide)]
      refine ⟨Iff.rfl, fun hm => ?_⟩
      rw [pDo_99 S D v rfl]
      have hm2 : dHO D = false ∧ ¬ D.2.2.1 v = 1 := by simpa using hm
      have e2 : (mDoPart (th, z, sv, sn, tx, ln, go, qu, gv, pb, 99, nI v) D.2.2.2.2.2.1).1.2.1 = upd z (81 + (nI v).toNatClampNeg) 1 := rfl
      rw [e2, nI_clamp (by omega)]
      exact h.come (h.ho0.mp hm2.1) hv
    · have hnu9 := hnu (Or.inr (Or.inr (Or.inr rfl)))
      subst hnu9
      have e1 : mNoPart (th, z, sv, sn, tx, ln, go, qu, gv, pb, 108, nI v) D.2.2.2.2.2.1 = mNoLeave z (nI v) := rfl
      rw [e1, h.noLeave hv, pMay_108 D v rfl, if_02 (by decide)]
      refine ⟨Iff.rfl, fun hm => ?_⟩
      rw [pDo_108 S D v rfl]
      have hm2 : dHO D = false ∧ D.2.2.1 v = 1 := by simpa using hm
      have e2 : (mDoPart (th, z, sv, sn, tx, ln, go, qu, gv, pb, 108, nI v) D.2.2.2.2.2.1).1.2.1 = dlAll D.2.2.2.2.2.1 (nI v) (upd z (81 + (nI v).toNatClampNeg) 0) := rfl
      rw [e2, nI_clamp (by omega)]
      exact h.leave (h.ho0.mp hm2.1) hv
  · rcases hu with rfl | rfl | rfl | rfl
    · have e1 : mNoPart (th, z, sv, sn, tx, ln, go, qu, gv, pb, 112, nu) D.2.2.2.2.2.1 = mNoPlan z := rfl
      have e3 : pMay D 112 0 = (!dHO D && decide (0 < cW D.2.2.1)) := rfl
      rw [e1, h.noPlan, e3, if_02 (by decide)]
      refine ⟨Iff.rfl, fun hm => ?_⟩
      rw [pDo_112 S D 0 rfl]
      have hm2 : dHO D = false ∧ 0 < cW D.2.2.1 := by simpa using hm
      have e2 : (mDoPart (th, z, sv, sn, tx, ln, go, qu, gv, pb, 112, nu) D.2.2.2.2.2.1).1 = mDoPlan (th, z, sv, sn, tx, ln, go, qu, gv, pb, 112, nu) D.2.2.2.2.2.1 := rfl
      rw [e2]
      exact hRP (h.ho0.mp hm2.1)
    · have e1 : mNoPart (th, z, sv, sn, tx, ln, go, qu, gv, pb, 104, nu) D.2.2.2.2.2.1 = mNoHand z := rfl
      have e3 : pMay D 104 0 = dHO D := rfl
      rw [e1, h.noHand, e3, if_02 (by decide)]
      refine ⟨Iff.rfl, fun hm => ?_⟩
      rw [pDo_104 S D 0 rfl]
      exact (h.hand (h.ho1.mp hm)).1
    · have e1 : mNoPart (th, z, sv, sn, tx, ln, go, qu, gv, pb, 120, nu) D.2.2.2.2.2.1 = mNoHand z := rfl
      have e3 : pMay D 120 0 = dHO D := rfl
      rw [e1, h.noHand, e3, if_02 (by decide)]
      refine ⟨Iff.rfl, fun hm => ?_⟩
      rw [pDo_120 S D 0 rfl]
      exact (h.off (h.ho1.mp hm)).1
    · have e1 : mNoPart (th, z, sv, sn, tx, ln, go, qu, gv, pb, 100, nu) D.2.2.2.2.2.1 = 0 := rfl
      have e3 : pMay D 100 0 = true := rfl
      rw [e1, e3]
      refine ⟨⟨fun _ => rfl, fun _ => rfl⟩, fun _ => ?_⟩
      exact h.dlv.1
theorem mDoPart_sv (M : MS) (n : Nat) : (mDoPart M n).1.1 = M.1 ∧ (mDoPart M n).1.2.2.1 = M.2.2.1 ∧ (mDoPart M n).1.2.2.2.1 = M.2.2.2.1 := by
  have hs : (mDoPlan M n).1 = M.1 ∧ (mDoPlan M n).2.2.1 = M.2.2.1 ∧ (mDoPlan M n).2.2.2.1 = M.2.2.2.1 := by
    show (mSh M n).1 = M.1 ∧ (mSh M n).2.2.1 = M.2.2.1 ∧ (mSh M n).2.2.2.1 = M.2.2.2.1
    unfold mSh
    split <;> exact ⟨rfl, rfl, rfl⟩
  unfold mDoPart
  repeat' split
  all_goals first | exact hs | exact ⟨rfl, rfl, rfl⟩
theorem run_go {C : TS} {S0 : SS} {D0 : DS} (hf : ctFull C = true) : ∀ (f k x : Nat) (M : MS) (S : SS) (D : DS), RT C M.2.2.2.2.1 M.2.2.2.2.2.1 → ctScan C.1 k = 0 → k < M.2.2.2.2.2.1 → M.2.2.2.2.2.1 + 1 ≤ k + f → crAll C S0 D0 k = (S, D, x, 0, 0, true) → RD D M.2.1 →
    ∃ (S' : SS) (D' : DS) (u' : Int32) (v' : Nat) (g' : Bool), crAll C S0 D0 (C.2 + 1) = (S', D', (rnF f k M x).2, u', v', g') ∧ RD D' (rnF f k M x).1.2.1 ∧ (rnF f k M x).1.1 = M.1 ∧ (rnF f k M x).1.2.2.1 = M.2.2.1 ∧ (rnF f k M x).1.2.2.2.1 = M.2.2.2.1 ∧ (rnF f k M x).1.2.2.2.2.1 = M.2.2.2.2.1 := by
  intro f
  induction f with
  | zero => intro k x M S D hT _ h1 h2; omega
  | succ f ih =>
    intro k x M S D hT h0 hk hfu hcr hR
    have hL := hT.2.1
    have hCL := hT.1
    rcases part_ok (nu := M.2.2.2.2.2.2.2.2.2.2.2) hT (by omega) h0 with ⟨e, v, p1, p2, p3, p4, p5, p6, p7, p8, p9⟩ | ⟨e, -, -, p3, -, p5, p6⟩
    · have hct : ctAt C e = 59 := by
        by_cases c : e < M.2.2.2.2.2.1
        · rcases p6 c with ⟨h1, -⟩ | ⟨-, h1⟩
          · rw [ct_at hT c]; exact h1
          · exact absurd h1 (full_ne hf (by omega))
        · exact ct_out (by omega)
      have hcr2 := cr_sep (p9 S0 S D0 D x hcr) hct
      have hmn : mN M.2.1 = D.2.2.2.2.2.1 := hR.1.mn
      have hlet : (rpS M k).2.2.2.2.2.2.2.2.2.2.1 = M.2.2.2.2.1 k := p4
      have hps := part_sim (S := S) (D := D) (M := rpS M k) (v := v) hR (by rw [hlet]; exact p8) (by rw [hlet]; exact p7)
      rw [hlet] at hps
      by_cases hm : pMay D (M.2.2.2.2.1 k) v = true
      · have hgo := rnF_go (x := x) (M := M) (f := f + 1) (f2 := f) rfl hk p3 (by omega) hmn (hps.1.mp hm)
        rw [if_pos rfl, Nat.add_sub_cancel] at hgo
        rw [hgo]
        have hpg : pGo S D (M.2.2.2.2.1 k) v = pDo S D (M.2.2.2.2.1 k) v := if_pos hm
        rw [hpg, if_pos hm, hm] at hcr2
        have hR2 := hps.2 hm
        have hln : (mDoPart (rpS M k) D.2.2.2.2.2.1).1.2.2.2.2.2.1 = M.2.2.2.2.2.1 := mDoPart_ln _ _
        have htx : (mDoPart (rpS M k) D.2.2.2.2.2.1).1.2.2.2.2.1 = M.2.2.2.2.1 := mDoPart_tx _ _
        obtain ⟨s1, s2, s3⟩ := mDoPart_sv (rpS M k) D.2.2.2.2.2.1
        by_cases c : e < M.2.2.2.2.2.1
        · have hs0 : ctScan C.1 (e + 1) = 0 := by
            rcases p6 c with ⟨-, h1⟩ | ⟨-, h1⟩
            · exact h1
            · exact absurd h1 (full_ne hf (by omega))
          have hlt : e + 1 < M.2.2.2.2.2.1 := by
            by_cases c2 : e + 1 < M.2.2.2.2.2.1
            · exact c2
            · exfalso
              have h9 := full_end hf
              rw [show C.2 = e + 1 by omega, hs0] at h9
              rcases h9 with h9 | h9 <;> exact absurd h9 (by decide)
          obtain ⟨S', D', u', v', g', q1, q2, q3, q4, q5, q6⟩ := ih (e + 1) (x + 1) (mDoPart (rpS M k) D.2.2.2.2.2.1).1 _ _ (by rw [hln, htx]; exact hT) hs0 (by rw [hln]; exact hlt) (by rw [hln]; omega) hcr2 hR2
          exact ⟨S', D', u', v', g', q1, q2, q3.trans s1, q4.trans s2, q5.trans s3, q6.trans htx⟩
        · rw [rnF_end (by rw [hln]; omega)]
          rw [show C.2 + 1 = e + 1 by omega]
          exact ⟨_, _, _, _, _, hcr2, hR2, s1, s2, s3, htx⟩
      · have hst := rnF_stop (x := x) (M := M) (f := f + 1) (f2 := f) (k2 := e) rfl hk hmn (fun h9 => hm (hps.1.mpr h9))
        rw [if_neg (by decide)] at hst
        rw [hst]
        have hmf : pMay D (M.2.2.2.2.1 k) v = false := Bool.eq_false_iff.mpr hm
        have hpg : pGo S D (M.2.2.2.2.1 k) v = (S, D) := if_neg hm
        rw [hpg, if_neg hm, hmf] at hcr2
        have h9 := cr_stop (C := C) (S := S0) (D := D0) (i := e + 1) (by rw [hcr2]) (C.2 - e)
        rw [show e + 1 + (C.2 - e) = C.2 + 1 by omega] at h9
        exact ⟨_, _, _, _, _, h9.trans hcr2, hR, rfl, rfl, rfl, rfl⟩
    · have := not_full (C := C) (e := e) (by omega) (fun h => p5 (by omega)) fun h => p6 (by omega)
      rw [this] at hf
      cases hf
theorem run_ok {C : TS} {S : SS} {D : DS} {M : MS} (hT : RT C M.2.2.2.2.1 M.2.2.2.2.2.1) (hR : RD D M.2.1) (hf : ctFull C = true) : ∃ (S' : SS) (D' : DS) (d' : Nat) (u' : Int32) (v' : Nat) (g' : Bool), crAll C S D (C.2 + 1) = (S', D', d', u', v', g') ∧ (mRun M).2 = nI d' ∧ (mRun M).1.1 = 0 ∧ RD D' (mRun M).1.2.1 ∧ (mRun M).1.2.2.1 = (recA M.2.1 M.2.2.1 M.2.2.2.1).1 ∧ (mRun M).1.2.2.2.1 = (recA M.2.1 M.2.2.1 M.2.2.2.1).2 ∧ (mRun M).1.2.2.2.2.1 = M.2.2.2.2.1 ∧ (mRun M).1.2.2.2.2.2.1 = 0 := by
  have hL := hT.2.1
  have hCL := hT.1
  have hfe := (full_ok hT).mpr hf
  have h0 : 0 < M.2.2.2.2.2.1 := by
    rcases Nat.eq_zero_or_pos M.2.2.2.2.2.1 with h | h
    · exfalso
      have h9 := full_end hf
      rw [hCL, h] at h9
      rcases h9 with h9 | h9 <;> exact absurd (show (0 : Int32) = _ from h9) (by decide)
    · exact h
  obtain ⟨S', D', u', v', g', q1, q2, q3, q4, q5, q6⟩ := run_go (S0 := S) (D0 := D) hf 61 0 0 (mRun0 M) S D hT rfl h0 (by show M.2.2.2.2.2.1 + 1 ≤ _; omega) rfl hR
  unfold mRun
  rw [if_pos hfe]
  exact ⟨S', D', _, u', v', g', q1, rfl, q3, q2, q4, q5, q6, rfl⟩

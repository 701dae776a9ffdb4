/-! ===== one call on both sides that does not throw ===== -/
theorem mDig_rest (M : MS) (n : Nat) : SameR (mT M 0) (mDig M n).1 := by
  have k1 : ∀ i (q : MS × Int64), SameR (mT M 0) q.1 → SameR (mT M 0) (itr i (dgM n) q).1 := by
    intro i q hq
    induction i with
    | zero => exact hq
    | succ i ih => exact ih.tr (mChB_rest (itr i (dgM n) q).1 n i)
  have k2 : ∀ i (q : MS × Int64), SameR (mT M 0) q.1 → SameR (mT M 0) (itr i (dgD n) q).1 := by
    intro i q hq
    induction i with
    | zero => exact hq
    | succ i ih => exact (ih.tr (mSh_rest (itr i (dgD n) q).1 n)).tr (mRea_rest (mSh (itr i (dgD n) q).1 n) n i)
  unfold mDig
  exact k2 n _ (k1 6 _ (mSh_rest (mT M 0) n))
theorem q_doorsteps (l : Launch) (G : va_G) (cyI cyO : ClassId) (h : Nat) (Ad At As Ac Am : Nat → Nat) (L : Nat → Nat → Nat) (D T : DS) (S : SS) (C : TS) (V : HS) (M : MS) (hR : RR D V C M) :
    ∃ (r : Int32) (M' : MS), CI l G (TY cyI cyO) yX5_doorsteps wsX5_doorsteps rm_X5_doorsteps [.ref h] [oO h Ad At As Ac L, dyW cyI Ad D] r [oO h Ad At As Ac L, dyW cyI Ad D] ∧ CI l G (TY cyI cyO) yX6_doorsteps wsX6_doorsteps rm_X6_doorsteps [.ref (Am 0)] [mdW cyI Am M] r [mdW cyI Am M'] ∧ RR D V C M' := by
  have hn := hR.n20
  have hV := hR.v6
  have hC := hR.c60
  have hMI := hR.1.1.mi
  exact ⟨_, _, c_X5_doorsteps l G cyI cyO h Ad At As Ac L D, c_X6_doorsteps l G cyI cyO Am M _ hMI, hR⟩

theorem q_handover (l : Launch) (G : va_G) (cyI cyO : ClassId) (h : Nat) (Ad At As Ac Am : Nat → Nat) (L : Nat → Nat → Nat) (D T : DS) (S : SS) (C : TS) (V : HS) (M : MS) (hR : RR D V C M) :
    ∃ (r : Int32) (M' : MS), CI l G (TY cyI cyO) yX5_handover wsX5_handover rm_X5_handover [.ref h] [oO h Ad At As Ac L, dyW cyI Ad D] r [oO h Ad At As Ac L, dyW cyI Ad D] ∧ CI l G (TY cyI cyO) yX6_handover wsX6_handover rm_X6_handover [.ref (Am 0)] [mdW cyI Am M] r [mdW cyI Am M'] ∧ RR D V C M' := by
  have hn := hR.n20
  have hV := hR.v6
  have hC := hR.c60
  have hMI := hR.1.1.mi
  have hm := c_X6_handover l G cyI cyO Am M _ hMI
  rw [hR.1.2.2.2.1] at hm
  exact ⟨_, _, c_X5_handover l G cyI cyO h Ad At As Ac L D, hm, hR⟩

theorem q_changed (l : Launch) (G : va_G) (cyI cyO : ClassId) (h : Nat) (Ad At As Ac Am : Nat → Nat) (L : Nat → Nat → Nat) (D T : DS) (S : SS) (C : TS) (V : HS) (M : MS) (hR : RR D V C M) :
    ∃ (r : Int32) (M' : MS), CI l G (TY cyI cyO) yX5_changed wsX5_changed rm_X5_changed [.ref h] [oO h Ad At As Ac L, dyW cyI Ad D] r [oO h Ad At As Ac L, dyW cyI Ad D] ∧ CI l G (TY cyI cyO) yX6_changed wsX6_changed rm_X6_changed [.ref (Am 0)] [mdW cyI Am M] r [mdW cyI Am M'] ∧ RR D V C M' := by
  have hn := hR.n20
  have hV := hR.v6
  have hC := hR.c60
  have hMI := hR.1.1.mi
  have hm := c_X6_changed l G cyI cyO Am M _ hMI
  rw [hR.1.2.2.2.2.1] at hm
  exact ⟨_, _, c_X5_changed l G cyI cyO h Ad At As Ac L D, hm, hR⟩

theorem q_delivered (l : Launch) (G : va_G) (cyI cyO : ClassId) (h : Nat) (Ad At As Ac Am : Nat → Nat) (L : Nat → Nat → Nat) (D T : DS) (S : SS) (C : TS) (V : HS) (M : MS) (hR : RR D V C M) :
    ∃ (r : Int32) (M' : MS), CI l G (TY cyI cyO) yX5_delivered wsX5_delivered rm_X5_delivered [.ref h] [oO h Ad At As Ac L, dyW cyI Ad D] r [oO h Ad At As Ac L, dyW cyI Ad D] ∧ CI l G (TY cyI cyO) yX6_delivered wsX6_delivered rm_X6_delivered [.ref (Am 0)] [mdW cyI Am M] r [mdW cyI Am M'] ∧ RR D V C M' := by
  have hn := hR.n20
  have hV := hR.v6
  have hC := hR.c60
  have hMI := hR.1.1.mi
  have hm := c_X6_delivered l G cyI cyO Am M _ hMI
  rw [hR.1.2.2.2.2.2.1] at hm
  exact ⟨_, _, c_X5_delivered l G cyI cyO h Ad At As Ac L D, hm, hR⟩

theorem q_misses (l : Launch) (G : va_G) (cyI cyO : ClassId) (h : Nat) (Ad At As Ac Am : Nat → Nat) (L : Nat → Nat → Nat) (D T : DS) (S : SS) (C : TS) (V : HS) (M : MS) (hR : RR D V C M) :
    ∃ (r : Int32) (M' : MS), CI l G (TY cyI cyO) yX5_misses wsX5_misses rm_X5_misses [.ref h] [oO h Ad At As Ac L, dyW cyI Ad D] r [oO h Ad At As Ac L, dyW cyI Ad D] ∧ CI l G (TY cyI cyO) yX6_misses wsX6_misses rm_X6_misses [.ref (Am 0)] [mdW cyI Am M] r [mdW cyI Am M'] ∧ RR D V C M' := by
  have hn := hR.n20
  have hV := hR.v6
  have hC := hR.c60
  have hMI := hR.1.1.mi
  have hm := c_X6_misses l G cyI cyO Am M _ hMI
  rw [hR.1.2.2.2.2.2.2.1] at hm
  exact ⟨_, _, c_X5_misses l G cyI cyO h Ad At As Ac L D, hm, hR⟩

theorem q_deliver (l : Launch) (G : va_G) (cyI cyO : ClassId) (h : Nat) (Ad At As Ac Am : Nat → Nat) (L : Nat → Nat → Nat) (D T : DS) (S : SS) (C : TS) (V : HS) (M : MS) (hR : RR D V C M) :
    ∃ (r : Int32) (L' : Nat → Nat → Nat) (D' : DS) (V' : HS) (M' : MS), CI l G (TY cyI cyO) yX5_deliver wsX5_deliver rm_X5_deliver [.ref h] [oO h Ad At As Ac L, dyW cyI Ad D, hiW cyI cyO L V] r [oO h Ad At As Ac L', dyW cyI Ad D', hiW cyI cyO L' V'] ∧ CI l G (TY cyI cyO) yX6_deliver wsX6_deliver rm_X6_deliver [.ref (Am 0)] [mdW cyI Am M] r [mdW cyI Am M'] ∧ RR D' V' C M' := by
  have hn := hR.n20
  have hV := hR.v6
  have hC := hR.c60
  have hMI := hR.1.1.mi
  have hm := c_X6_deliver l G cyI cyO Am M _ hMI hR.s6
  obtain ⟨e1, e2⟩ := hR.1.dlv
  rw [← e2] at hm e1
  exact ⟨_, svM L V, _, _, _, c_X5_deliver l G cyI cyO h Ad At As Ac L D V hn hV, hm, hR.save 0 e1⟩

theorem q_changesToCome (l : Launch) (G : va_G) (cyI cyO : ClassId) (h : Nat) (Ad At As Ac Am : Nat → Nat) (L : Nat → Nat → Nat) (D T : DS) (S : SS) (C : TS) (V : HS) (M : MS) (hR : RR D V C M) :
    ∃ (r : Int32) (S' : SS) (M' : MS), CI l G (TY cyI cyO) yX5_changesToCome wsX5_changesToCome rm_X5_changesToCome [.ref h] [oO h Ad At As Ac L, shW cyI As S, dyW cyI Ad D] r [oO h Ad At As Ac L, shW cyI As S', dyW cyI Ad D] ∧ CI l G (TY cyI cyO) yX6_changesToCome wsX6_changesToCome rm_X6_changesToCome [.ref (Am 0)] [mdW cyI Am M] r [mdW cyI Am M'] ∧ RR D V C M' := by
  have hn := hR.n20
  have hV := hR.v6
  have hC := hR.c60
  have hMI := hR.1.1.mi
  have hm := c_X6_changesToCome l G cyI cyO Am M _ hMI
  rw [← share_res (S := S) (M := mT M 0) hR.1.rs] at hm
  have hpr := mSh_rest (mT M 0) D.2.2.2.2.2.1
  exact ⟨_, _, _, c_X5_changesToCome l G cyI cyO h Ad At As Ac L S D hn, hm, ⟨by have e := mSh_z (mT M 0) D.2.2.2.2.2.1; show RD D (mSh (mT M 0) D.2.2.2.2.2.1).2.1; rw [e]; exact hR.1, hpr.rv hR.2.1, hpr.rt hR.2.2⟩⟩

theorem q_clearText (l : Launch) (G : va_G) (cyI cyO : ClassId) (h : Nat) (Ad At As Ac Am : Nat → Nat) (L : Nat → Nat → Nat) (D T : DS) (S : SS) (C : TS) (V : HS) (M : MS) (hR : RR D V C M) :
    ∃ (r : Int32) (C' : TS) (M' : MS), CI l G (TY cyI cyO) yX5_clearText wsX5_clearText rm_X5_clearText [.ref h] [oO h Ad At As Ac L, ctW cyI Ac C] r [oO h Ad At As Ac L, ctW cyI Ac C'] ∧ CI l G (TY cyI cyO) yX6_clearText wsX6_clearText rm_X6_clearText [.ref (Am 0)] [mdW cyI Am M] r [mdW cyI Am M'] ∧ RR D V C' M' := by
  have hn := hR.n20
  have hV := hR.v6
  have hC := hR.c60
  have hMI := hR.1.1.mi
  have hm := c_X6_clearText l G cyI cyO Am M
  rw [← hR.2.2.1] at hm
  exact ⟨_, _, _, c_X5_clearText l G cyI cyO h Ad At As Ac L C, hm, ⟨hR.1, hR.2.1, hR.2.2.none⟩⟩

theorem q_firstError (l : Launch) (G : va_G) (cyI cyO : ClassId) (h : Nat) (Ad At As Ac Am : Nat → Nat) (L : Nat → Nat → Nat) (D T : DS) (S : SS) (C : TS) (V : HS) (M : MS) (hR : RR D V C M) :
    ∃ (r : Int32) (M' : MS), CI l G (TY cyI cyO) yX5_firstError wsX5_firstError rm_X5_firstError [.ref h] [oO h Ad At As Ac L, ctW cyI Ac C] r [oO h Ad At As Ac L, ctW cyI Ac C] ∧ CI l G (TY cyI cyO) yX6_firstError wsX6_firstError rm_X6_firstError [.ref (Am 0)] [mdW cyI Am M] r [mdW cyI Am M'] ∧ RR D V C M' := by
  have hn := hR.n20
  have hV := hR.v6
  have hC := hR.c60
  have hMI := hR.1.1.mi
  have hm := c_X6_firstError l G cyI cyO Am M hR.l60
  rw [err_ok hR.2.2] at hm
  exact ⟨_, _, c_X5_firstError l G cyI cyO h Ad At As Ac L C hC, hm, ⟨hR.1, hR.2.1, hR.2.2⟩⟩

theorem q_savedStates (l : Launch) (G : va_G) (cyI cyO : ClassId) (h : Nat) (Ad At As Ac Am : Nat → Nat) (L : Nat → Nat → Nat) (D T : DS) (S : SS) (C : TS) (V : HS) (M : MS) (hR : RR D V C M) :
    ∃ (r : Int32) (M' : MS), CI l G (TY cyI cyO) yX5_savedStates wsX5_savedStates rm_X5_savedStates [.ref h] [oO h Ad At As Ac L, hiW cyI cyO L V] r [oO h Ad At As Ac L, hiW cyI cyO L V] ∧ CI l G (TY cyI cyO) yX6_savedStates wsX6_savedStates rm_X6_savedStates [.ref (Am 0)] [mdW cyI Am M] r [mdW cyI Am M'] ∧ RR D V C M' := by
  have hn := hR.n20
  have hV := hR.v6
  have hC := hR.c60
  have hMI := hR.1.1.mi
  have hm := c_X6_savedStates l G cyI cyO Am M
  have e := hR.2.1.1
  rw [← e] at hm
  refine ⟨_, _, c_X5_savedStates l G cyI cyO h Ad At As Ac L V, hm, ⟨hR.1, ?_, hR.2.2⟩⟩
  show RV V M.2.2.1 V.1
  rw [e]
  exact hR.2.1

theorem q_unevenness (l : Launch) (G : va_G) (cyI cyO : ClassId) (h : Nat) (Ad At As Ac Am : Nat → Nat) (L : Nat → Nat → Nat) (D T : DS) (S : SS) (C : TS) (V : HS) (M : MS) (hR : RR D V C M) :
    ∃ (r : UInt64) (M' : MS), CD l G (TY cyI cyO) yX5_unevenness wsX5_unevenness rm_X5_unevenness [.ref h] [oO h Ad At As Ac L, dyW cyI Ad D] r [oO h Ad At As Ac L, dyW cyI Ad D] ∧ CD l G (TY cyI cyO) yX6_unevenness wsX6_unevenness rm_X6_unevenness [.ref (Am 0)] [mdW cyI Am M] r [mdW cyI Am M'] ∧ RR D V C M' := by
  have hn := hR.n20
  have hV := hR.v6
  have hC := hR.c60
  have hMI := hR.1.1.mi
  have hm := c_X6_unevenness l G cyI cyO Am M _ hMI
  rw [← une_eq hR.1] at hm
  exact ⟨_, _, c_X5_unevenness l G cyI cyO h Ad At As Ac L D hn, hm, hR.mt 0⟩

theorem q_digest (l : Launch) (G : va_G) (cyI cyO : ClassId) (h : Nat) (Ad At As Ac Am : Nat → Nat) (L : Nat → Nat → Nat) (D T : DS) (S : SS) (C : TS) (V : HS) (M : MS) (hR : RR D V C M) :
    ∃ (r : Int64) (S' : SS) (T' : DS) (M' : MS), CL l G (TY cyI cyO) yX5_digest wsX5_digest rm_X5_digest [.ref h] [oO h Ad At As Ac L, shW cyI As S, dyW cyI At T, dyW cyI Ad D] r [oO h Ad At As Ac L, shW cyI As S', dyW cyI At T', dyW cyI Ad D] ∧ CL l G (TY cyI cyO) yX6_digest wsX6_digest rm_X6_digest [.ref (Am 0)] [mdW cyI Am M] r [mdW cyI Am M'] ∧ RR D V C M' := by
  have hn := hR.n20
  have hV := hR.v6
  have hC := hR.c60
  have hMI := hR.1.1.mi
  have hm := c_X6_digest l G cyI cyO Am M _ hMI
  obtain ⟨q1, qS, qT, hq⟩ : ∃ q1 qS qT, mmAll D (dgA S D) (shOut S D) T = (q1, qS, qT) := ⟨_, _, _, rfl⟩
  obtain ⟨e1, e2⟩ := dig_eq hR.1 hq
  rw [← e1] at hm
  have hpr := mDig_rest M D.2.2.2.2.2.1
  exact ⟨_, _, _, _, c_X5_digest l G cyI cyO h Ad At As Ac L S T D hn q1 qS qT hq, hm, ⟨by rw [e2]; exact hR.1, hpr.rv hR.2.1, hpr.rt hR.2.2⟩⟩


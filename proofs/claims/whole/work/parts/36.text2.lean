/-! ===== texts: both sides alike ===== -/
theorem scan_s (f : Nat → Int32) (i : Nat) : ctScan f (i + 1) = rNext (ctScan f i) (f i) := rfl
theorem cr_s (C : TS) (S : SS) (D : DS) (i : Nat) : crAll C S D (i + 1) = crStep C i (crAll C S D i) := rfl
theorem cr_kind {C : TS} {S0 S : SS} {D0 D : DS} {k dn v : Nat} {c : Int32} (h : crAll C S0 D0 k = (S, D, dn, 0, v, true)) (hc : ctAt C k = c) (h9 : ¬ c = 59) : crAll C S0 D0 (k + 1) = (S, D, dn, c, v, true) := by
  rw [cr_s, h]
  unfold crStep
  rw [if_neg (show ¬ true = false by decide), if_neg (by rw [hc]; exact h9), if_pos rfl, hc]
theorem cr_dig {C : TS} {S0 S : SS} {D0 D : DS} {k dn v j : Nat} {u : Int32} (h : crAll C S0 D0 k = (S, D, dn, u, v, true)) (hu : ¬ u = 0) (hc : ctAt C k = nI j) (h1 : 48 ≤ j) (h2 : j ≤ 57) : crAll C S0 D0 (k + 1) = (S, D, dn, u, 10 * v + (j - 48), true) := by
  rw [cr_s, h]
  unfold crStep
  rw [if_neg (show ¬ true = false by decide), if_neg (by rw [hc]; exact dig_59 h1 h2), if_neg hu]
  show (S, D, dn, u, 10 * v + (ctAt C k - 48).toNatClampNeg, true) = _
  rw [hc, (cr_num (v := v) h1 h2 rfl).2]
theorem cr_sep {C : TS} {S0 S : SS} {D0 D : DS} {k dn v : Nat} {u : Int32} (h : crAll C S0 D0 k = (S, D, dn, u, v, true)) (hc : ctAt C k = 59) : crAll C S0 D0 (k + 1) = ((pGo S D u v).1, (pGo S D u v).2, if pMay D u v = true then dn + 1 else dn, 0, 0, pMay D u v) := by
  rw [cr_s, h]
  unfold crStep
  rw [if_neg (show ¬ true = false by decide), if_pos hc]
theorem sub_dig_all : ∀ j, j < 127 → 33 ≤ j → isDig (nI j - 48) 1 9 = isDig (nI j) 49 57 ∧ isDig (nI j - 48) 0 9 = isDig (nI j) 48 57 ∧ isDig (nI j - 48) 0 5 = isDig (nI j) 48 53 := by decide +kernel
theorem m_at {C : TS} {t : Nat → Int32} {L : Nat} (hT : RT C t L) (k : Nat) : (k < L ∧ mAt t L k = C.1 k ∧ ∃ j, 33 ≤ j ∧ j ≤ 126 ∧ C.1 k = nI j) ∨ (¬ k < L ∧ mAt t L k = 0) := by
  by_cases h : k < L
  · obtain ⟨e, j, h1, h2, h3⟩ := hT.2.2 k h
    exact Or.inl ⟨h, by rw [e]; exact if_pos h, j, h1, h2, by rw [e]; exact h3⟩
  · exact Or.inr ⟨h, if_neg h⟩
theorem m_dig {C : TS} {t : Nat → Int32} {L : Nat} (hT : RT C t L) (k : Nat) : isDig (mAt t L k - 48) 1 9 = (decide (k < L) && isDig (C.1 k) 49 57) ∧ isDig (mAt t L k - 48) 0 9 = (decide (k < L) && isDig (C.1 k) 48 57) ∧ isDig (mAt t L k - 48) 0 5 = (decide (k < L) && isDig (C.1 k) 48 53) ∧ isDig (mAt t L k) 48 57 = (decide (k < L) && isDig (C.1 k) 48 57) := by
  rcases m_at hT k with ⟨h, e, j, h1, h2, h3⟩ | ⟨h, e⟩
  · rw [e, decide_eq_true h, Bool.true_and, Bool.true_and, Bool.true_and, h3]
    obtain ⟨x1, x2, x3⟩ := sub_dig_all j (by omega) h1
    exact ⟨x1, x2, x3, rfl⟩
  · rw [e, decide_eq_false h, Bool.false_and, Bool.false_and, Bool.false_and]
    exact ⟨by decide, by decide, by decide, by decide⟩
def POK (C : TS) (t : Nat → Int32) (L k : Nat) (nu : Int32) (e v : Nat) : Prop :=
  k < e ∧ e ≤ L ∧ (rpF t L nu k).1 = nI e ∧ (rpF t L nu k).2.1 = t k ∧ (ctScan C.1 e = 5 ∨ ctScan C.1 e = 3) ∧ (e < L → (t e = 59 ∧ ctScan C.1 (e + 1) = 0) ∨ (¬ t e = 59 ∧ ctScan C.1 (e + 1) = -1)) ∧
  ((t k = 43 ∨ t k = 45 ∨ t k = 99 ∨ t k = 108) → (rpF t L nu k).2.2 = nI v) ∧ okR 5 (t k) v ∧
  ∀ (S0 S : SS) (D0 D : DS) (dn : Nat), crAll C S0 D0 k = (S, D, dn, 0, 0, true) → crAll C S0 D0 e = (S, D, dn, t k, v, true)
def PBAD (C : TS) (t : Nat → Int32) (L k : Nat) (nu : Int32) (e : Nat) : Prop :=
  (rpF t L nu k).1 = -1 - nI e ∧ k ≤ e ∧ e ≤ L ∧ ¬ ctScan C.1 e = -1 ∧ (e < L → ctScan C.1 (e + 1) = -1) ∧ (e = L → ¬ ctScan C.1 e = 5 ∧ ¬ ctScan C.1 e = 3)
theorem sep_5 {C : TS} {t : Nat → Int32} {L e : Nat} (hT : RT C t L) (h5 : ctScan C.1 e = 5) (he : e < L) : (t e = 59 ∧ ctScan C.1 (e + 1) = 0) ∨ (¬ t e = 59 ∧ ctScan C.1 (e + 1) = -1) := by
  rw [scan_s, h5, (hT.2.2 e he).1]
  have e9 : rNext 5 (t e) = rSep (t e) := rfl
  rw [e9]
  unfold rSep
  by_cases c : t e = 59
  · rw [if_pos c]; exact Or.inl ⟨c, rfl⟩
  · rw [if_neg c]; exact Or.inr ⟨c, rfl⟩
theorem ct_at {C : TS} {t : Nat → Int32} {L k : Nat} (hT : RT C t L) (hk : k < L) : ctAt C k = t k := by
  rw [ct_in (by rw [hT.1]; exact hk)]; exact (hT.2.2 k hk).1
theorem part_one {C : TS} {t : Nat → Int32} {L k : Nat} {nu c : Int32} (hT : RT C t L) (hk : k < L) (h0 : ctScan C.1 k = 0) (hc : t k = c) (hK : rKind c = 5) (h9 : ¬ c = 59) (hok : okR 5 c 0) (hnd : ¬ (c = 43 ∨ c = 45 ∨ c = 99 ∨ c = 108)) (hr : rpF t L nu k = (nI (k + 1), c, nu)) : POK C t L k nu (k + 1) 0 := by
  have h5 : ctScan C.1 (k + 1) = 5 := by rw [scan_s, h0, (hT.2.2 k hk).1, hc]; exact hK
  unfold POK
  rw [hr, hc]
  exact ⟨by omega, by omega, rfl, rfl, Or.inl h5, fun he => sep_5 hT h5 he, fun h => absurd h hnd, hok, fun S0 S D0 D dn h => cr_kind h ((ct_at hT hk).trans hc) h9⟩
theorem part_dig {C : TS} {t : Nat → Int32} {L k : Nat} {nu c r1 lo hi clo chi : Int32} (hT : RT C t L) (hk : k < L) (h0 : ctScan C.1 k = 0) (hc : t k = c) (hK : rKind c = r1) (h9 : ¬ c = 59) (hz : ¬ c = 0)
    (hr : rpF t L nu k = (rdR t L (k + 1) lo hi, c, mAt t L (k + 1) - 48)) (hn : ∀ x, rNext r1 x = if isDig x clo chi = true then 5 else -1) (hr1 : ¬ r1 = -1 ∧ ¬ r1 = 5 ∧ ¬ r1 = 3)
    (hd : isDig (mAt t L (k + 1) - 48) lo hi = (decide (k + 1 < L) && isDig (C.1 (k + 1)) clo chi)) (hv : ∀ x, isDig x clo chi = true → ∃ j, 48 ≤ j ∧ j ≤ 57 ∧ x = nI j ∧ okR 5 c (j - 48)) : (∃ e v, POK C t L k nu e v) ∨ ∃ e, PBAD C t L k nu e := by
  have h1 : ctScan C.1 (k + 1) = r1 := by rw [scan_s, h0, (hT.2.2 k hk).1, hc]; exact hK
  by_cases hb : k + 1 < L
  · rw [decide_eq_true hb, Bool.true_and] at hd
    have h2 : ctScan C.1 (k + 1 + 1) = if isDig (C.1 (k + 1)) clo chi = true then 5 else -1 := by rw [scan_s, h1]; exact hn _
    by_cases hg : isDig (C.1 (k + 1)) clo chi = true
    · rw [if_pos hg] at h2
      obtain ⟨j, j1, j2, j3, j4⟩ := hv _ hg
      have hm : mAt t L (k + 1) = C.1 (k + 1) := by
        rcases m_at hT (k + 1) with ⟨-, e, -⟩ | ⟨e, -⟩
        · exact e
        · exact absurd hb e
      refine Or.inl ⟨k + 1 + 1, j - 48, ?_⟩
      unfold POK
      rw [hr, hc]
      refine ⟨by omega, by omega, ?_, rfl, Or.inl h2, fun he => sep_5 hT h2 he, fun _ => ?_, j4, fun S0 S D0 D dn h => ?_⟩
      · show rdR t L (k + 1) lo hi = _
        unfold rdR
        rw [if_pos (hd.trans hg)]
      · show mAt t L (k + 1) - 48 = _
        rw [hm, j3, nI_48, nI_sub j1]
      · have := cr_dig (cr_kind h ((ct_at hT hk).trans hc) h9) hz ((ct_at hT hb).trans (((hT.2.2 _ hb).1).symm.trans j3)) j1 j2
        rw [this, Nat.mul_zero, Nat.zero_add]
    · rw [if_neg hg] at h2
      refine Or.inr ⟨k + 1, ?_⟩
      unfold PBAD
      rw [hr]
      refine ⟨?_, by omega, by omega, by rw [h1]; exact hr1.1, fun _ => h2, fun he => by omega⟩
      show rdR t L (k + 1) lo hi = _
      unfold rdR
      rw [if_neg (fun h => hg (hd.symm.trans h))]
  · rw [decide_eq_false hb, Bool.false_and] at hd
    refine Or.inr ⟨k + 1, ?_⟩
    unfold PBAD
    rw [hr]
    refine ⟨?_, by omega, by omega, by rw [h1]; exact hr1.1, fun he => absurd he hb, fun _ => by rw [h1]; exact hr1.2⟩
    show rdR t L (k + 1) lo hi = _
    unfold rdR
    rw [if_neg (by rw [hd]; decide)]
theorem dig_v {c x clo chi : Int32} {a b : Nat} (h1 : clo = nI a) (h2 : chi = nI b) (ha : 48 ≤ a ∧ a ≤ 57) (hb : b ≤ 57) (hok : ∀ d, a ≤ d → d ≤ b → okR 5 c (d - 48)) (h : isDig x clo chi = true) : ∃ j, 48 ≤ j ∧ j ≤ 57 ∧ x = nI j ∧ okR 5 c (j - 48) := by
  rw [h1, h2] at h
  obtain ⟨d, d1, d2, d3⟩ := dig_d (by omega) (by omega) h
  exact ⟨d, by omega, by omega, d3, hok d d1 d2⟩
theorem rp_45 {t : Nat → Int32} {L k : Nat} {nu : Int32} (h : mAt t L k = 45) : rpF t L nu k = (if rdR t L (k + 1) 0 9 ≤ 0 then (rdR t L (k + 1) 0 9, mAt t L k, mAt t L (k + 1) - 48)
     else if mAt t L (k + 1) - 48 = 1 then
       (if isDig (mAt t L (k + 1 + 1)) 48 57 = true then (nI (k + 1 + 1 + 1), mAt t L k, 10 + mAt t L (k + 1 + 1) - 48) else (nI (k + 1 + 1), mAt t L k, mAt t L (k + 1) - 48))
     else (nI (k + 1 + 1), mAt t L k, mAt t L (k + 1) - 48)) := by
  unfold rpF
  rw [if_neg (by rw [h]; decide), if_pos h]
theorem neg_le {j : Nat} (hj : j < 1000) : (-1 - nI j) ≤ 0 := i32_lt_le (neg_of j hj)
theorem part_minus {C : TS} {t : Nat → Int32} {L k : Nat} {nu : Int32} (hT : RT C t L) (hk : k < L) (h0 : ctScan C.1 k = 0) (hc : t k = 45) : (∃ e v, POK C t L k nu e v) ∨ ∃ e, PBAD C t L k nu e := by
  have hL := hT.2.1
  have h1 : ctScan C.1 (k + 1) = 2 := by rw [scan_s, h0, (hT.2.2 k hk).1, hc]; rfl
  have hm0 : mAt t L k = 45 := by unfold mAt; rw [if_pos hk]; exact hc
  have hr := rp_45 (nu := nu) hm0
  obtain ⟨-, hd, -, -⟩ := m_dig hT (k + 1)
  have hs2 : ctScan C.1 (k + 1 + 1) = rDoor (C.1 (k + 1)) := by rw [scan_s, h1]; rfl
  have hgo : ∀ (S0 S : SS) (D0 D : DS) (dn : Nat), crAll C S0 D0 k = (S, D, dn, 0, 0, true) → crAll C S0 D0 (k + 1) = (S, D, dn, 45, 0, true) := fun S0 S D0 D dn h => cr_kind h ((ct_at hT hk).trans hc) (by decide)
  by_cases hb : k + 1 < L
  · rw [decide_eq_true hb, Bool.true_and] at hd
    by_cases hg : isDig (C.1 (k + 1)) 48 57 = true
    · obtain ⟨j, j1, j2, j3⟩ := dig_d (a := 48) (b := 57) (by omega) (by omega) hg
      have hm : mAt t L (k + 1) = nI j := by
        rcases m_at hT (k + 1) with ⟨-, e, -⟩ | ⟨e, -⟩
        · exact e.trans j3
        · exact absurd hb e
      have hrd : rdR t L (k + 1) 0 9 = nI (k + 1 + 1) := by unfold rdR; rw [if_pos (hd.trans hg)]
      have hsub : mAt t L (k + 1) - 48 = nI (j - 48) := by rw [hm, nI_48, nI_sub j1]
      rw [hrd, if_neg (nI_nle (by omega) (by omega)), hsub, hm0] at hr
      have hct1 : ctAt C (k + 1) = nI j := (ct_at hT hb).trans (((hT.2.2 _ hb).1).symm.trans j3)
      have hgo2 : ∀ (S0 S : SS) (D0 D : DS) (dn : Nat), crAll C S0 D0 k = (S, D, dn, 0, 0, true) → crAll C S0 D0 (k + 1 + 1) = (S, D, dn, 45, j - 48, true) := fun S0 S D0 D dn h => by
        have := cr_dig (hgo S0 S D0 D dn h) (by decide) hct1 j1 j2
        rw [this, Nat.mul_zero, Nat.zero_add]
      have hsc : ctScan C.1 (k + 1 + 1) = if C.1 (k + 1) = 49 then 3 else 5 := by rw [hs2]; unfold rDoor; rw [if_pos hg]
      by_cases h49 : j = 49
      · have e49 : C.1 (k + 1) = 49 := by rw [j3, h49]; decide +kernel
        rw [if_pos e49] at hsc
        rw [if_pos (by rw [h49]; decide +kernel)] at hr
        obtain ⟨-, -, -, hd2⟩ := m_dig hT (k + 1 + 1)
        by_cases hg2 : isDig (mAt t L (k + 1 + 1)) 48 57 = true
        · rw [if_pos hg2] at hr
          rw [hg2] at hd2
          have hd3 := hd2.symm
          rw [Bool.and_eq_true, decide_eq_true_eq] at hd3
          obtain ⟨i, i1, i2, i3⟩ := dig_d (a := 48) (b := 57) (by omega) (by omega) hd3.2
          have hm2 : mAt t L (k + 1 + 1) = nI i := by
            rcases m_at hT (k + 1 + 1) with ⟨-, e, -⟩ | ⟨e, -⟩
            · exact e.trans i3
            · exact absurd hd3.1 e
          have h5 : ctScan C.1 (k + 1 + 1 + 1) = 5 := by
            rw [scan_s, hsc]
            have e9 : rNext 3 (C.1 (k + 1 + 1)) = if isDig (C.1 (k + 1 + 1)) 48 57 = true then 5 else rSep (C.1 (k + 1 + 1)) := rfl
            rw [e9, if_pos hd3.2]
          refine Or.inl ⟨k + 1 + 1 + 1, 10 * (j - 48) + (i - 48), ?_⟩
          unfold POK
          rw [hr, hc]
          refine ⟨by omega, by omega, rfl, rfl, Or.inl h5, fun he => sep_5 hT h5 he, fun _ => ?_, okR_5 (Or.inr (Or.inl ⟨rfl, by omega⟩)), fun S0 S D0 D dn h => ?_⟩
          · show 10 + mAt t L (k + 1 + 1) - 48 = _
            rw [hm2, show (10 : Int32) = nI (10 * 1) by decide +kernel, (cr_num (v := 1) i1 i2 rfl).1, (cr_num (v := 1) i1 i2 rfl).2, h49]
          · exact cr_dig (hgo2 S0 S D0 D dn h) (by decide) ((ct_at hT hd3.1).trans (((hT.2.2 _ hd3.1).1).symm.trans i3)) i1 i2
        · rw [if_neg hg2] at hr
          refine Or.inl ⟨k + 1 + 1, j - 48, ?_⟩
          unfold POK
          rw [hr, hc]
          refine ⟨by omega, by omega, rfl, rfl, Or.inr hsc, fun he => ?_, fun _ => rfl, okR_5 (Or.inr (Or.inl ⟨rfl, by omega⟩)), hgo2⟩
          rw [scan_s, hsc, (hT.2.2 _ he).1]
          have e9 : rNext 3 (t (k + 1 + 1)) = if isDig (t (k + 1 + 1)) 48 57 = true then 5 else rSep (t (k + 1 + 1)) := rfl
          have hng : ¬ isDig (t (k + 1 + 1)) 48 57 = true := fun h9 => hg2 (by rw [hd2, decide_eq_true he, Bool.true_and, (hT.2.2 _ he).1]; exact h9)
          rw [e9, if_neg hng]
          unfold rSep
          by_cases c : t (k + 1 + 1) = 59
          · rw [if_pos c]; exact Or.inl ⟨c, rfl⟩
          · rw [if_neg c]; exact Or.inr ⟨c, rfl⟩
      · have e49 : ¬ C.1 (k + 1) = 49 := by rw [j3, show (49 : Int32) = nI 49 by decide +kernel, nI_eq (by omega) (by omega)]; exact h49
        rw [if_neg e49] at hsc
        rw [if_neg (by rw [show (1 : Int32) = nI 1 by decide +kernel, nI_eq (by omega) (by omega)]; omega)] at hr
        refine Or.inl ⟨k + 1 + 1, j - 48, ?_⟩
        unfold POK
        rw [hr, hc]
        exact ⟨by omega, by omega, rfl, rfl, Or.inl hsc, fun he => sep_5 hT hsc he, fun _ => rfl, okR_5 (Or.inr (Or.inl ⟨rfl, by omega⟩)), hgo2⟩
    · have hrd : rdR t L (k + 1) 0 9 = -1 - nI (k + 1) := by unfold rdR; rw [if_neg (fun h => hg (hd.symm.trans h))]
      rw [hrd, if_pos (neg_le (by omega))] at hr
      refine Or.inr ⟨k + 1, ?_⟩
      unfold PBAD
      rw [hr]
      refine ⟨rfl, by omega, by omega, by rw [h1]; decide, fun _ => ?_, fun he => by omega⟩
      rw [hs2]; unfold rDoor; rw [if_neg hg]
  · rw [decide_eq_false hb, Bool.false_and] at hd
    have hrd : rdR t L (k + 1) 0 9 = -1 - nI (k + 1) := by unfold rdR; rw [if_neg (by rw [hd]; decide)]
    rw [hrd, if_pos (neg_le (by omega))] at hr
    refine Or.inr ⟨k + 1, ?_⟩
    unfold PBAD
    rw [hr]
    exact ⟨rfl, by omega, by omega, by rw [h1]; decide, fun he => absurd he hb, fun _ => by rw [h1]; decide⟩
theorem part_ok {C : TS} {t : Nat → Int32} {L k : Nat} {nu : Int32} (hT : RT C t L) (hk : k ≤ L) (h0 : ctScan C.1 k = 0) : (∃ e v, POK C t L k nu e v) ∨ ∃ e, PBAD C t L k nu e := by
  have hL := hT.2.1
  by_cases hl : k < L
  · have hm0 : mAt t L k = t k := if_pos hl
    obtain ⟨d19, -, d05, -⟩ := m_dig hT (k + 1)
    by_cases c1 : t k = 43
    · have hr : rpF t L nu k = (rdR t L (k + 1) 1 9, 43, mAt t L (k + 1) - 48) := by unfold rpF; rw [hm0, if_pos c1, c1]
      exact part_dig (r1 := 1) hT hl h0 c1 (by decide) (by decide) (by decide) hr (clo := 49) (chi := 57) (fun x => rfl) (by decide) d19
        (fun x => dig_v (a := 49) (b := 57) (by decide +kernel) (by decide +kernel) (by omega) (by omega) fun d h1 h2 => okR_5 (Or.inl ⟨rfl, by omega, by omega⟩))
    by_cases c2 : t k = 45
    · exact part_minus hT hl h0 c2
    by_cases c3 : t k = 99
    · have hr : rpF t L nu k = (rdR t L (k + 1) 0 5, 99, mAt t L (k + 1) - 48) := by unfold rpF; rw [hm0, if_neg c1, if_neg c2, if_pos c3, c3]
      exact part_dig (r1 := 4) hT hl h0 c3 (by decide) (by decide) (by decide) hr (clo := 48) (chi := 53) (fun x => rfl) (by decide) d05
        (fun x => dig_v (a := 48) (b := 53) (by decide +kernel) (by decide +kernel) (by omega) (by omega) fun d h1 h2 => okR_5 (Or.inr (Or.inr (Or.inl ⟨Or.inl rfl, by omega⟩))))
    by_cases c4 : t k = 100
    · exact Or.inl ⟨_, _, part_one hT hl h0 c4 (by decide) (by decide) (okR_5 (by simp)) (by decide) (by unfold rpF; rw [hm0, if_neg c1, if_neg c2, if_neg c3, if_pos c4, c4])⟩
    by_cases c5 : t k = 104
    · exact Or.inl ⟨_, _, part_one hT hl h0 c5 (by decide) (by decide) (okR_5 (by simp)) (by decide) (by unfold rpF; rw [hm0, if_neg c1, if_neg c2, if_neg c3, if_neg c4, if_pos c5, c5])⟩
    by_cases c6 : t k = 108
    · have hr : rpF t L nu k = (rdR t L (k + 1) 0 5, 108, mAt t L (k + 1) - 48) := by unfold rpF; rw [hm0, if_neg c1, if_neg c2, if_neg c3, if_neg c4, if_neg c5, if_pos c6, c6]
      exact part_dig (r1 := 4) hT hl h0 c6 (by decide) (by decide) (by decide) hr (clo := 48) (chi := 53) (fun x => rfl) (by decide) d05
        (fun x => dig_v (a := 48) (b := 53) (by decide +kernel) (by decide +kernel) (by omega) (by omega) fun d h1 h2 => okR_5 (Or.inr (Or.inr (Or.inl ⟨Or.inr rfl, by omega⟩))))
    by_cases c7 : t k = 112
    · exact Or.inl ⟨_, _, part_one hT hl h0 c7 (by decide) (by decide) (okR_5 (by simp)) (by decide) (by unfold rpF; rw [hm0, if_neg c1, if_neg c2, if_neg c3, if_neg c4, if_neg c5, if_neg c6, if_pos c7, c7])⟩
    by_cases c8 : t k = 120
    · exact Or.inl ⟨_, _, part_one hT hl h0 c8 (by decide) (by decide) (okR_5 (by simp)) (by decide) (by unfold rpF; rw [hm0, if_neg c1, if_neg c2, if_neg c3, if_neg c4, if_neg c5, if_neg c6, if_neg c7, if_pos c8, c8])⟩
    refine Or.inr ⟨k, ?_⟩
    have hr : rpF t L nu k = (-1 - nI k, t k, nu) := by unfold rpF; rw [hm0, if_neg c1, if_neg c2, if_neg c3, if_neg c4, if_neg c5, if_neg c6, if_neg c7, if_neg c8]
    unfold PBAD
    rw [hr]
    refine ⟨rfl, by omega, by omega, by rw [h0]; decide, fun _ => ?_, fun he => by omega⟩
    rw [scan_s, h0, (hT.2.2 k hl).1]
    have e9 : rNext 0 (t k) = rKind (t k) := rfl
    rw [e9]
    unfold rKind
    rw [if_neg c1, if_neg c2, if_neg c3, if_neg c4, if_neg c5, if_neg c6, if_neg c7, if_neg c8]
  · have hm0 : mAt t L k = 0 := if_neg hl
    refine Or.inr ⟨k, ?_⟩
    have hr : rpF t L nu k = (-1 - nI k, 0, nu) := by unfold rpF; rw [hm0, if_neg (by decide), if_neg (by decide), if_neg (by decide), if_neg (by decide), if_neg (by decide), if_neg (by decide), if_neg (by decide), if_neg (by decide)]
    unfold PBAD
    rw [hr]
    exact ⟨rfl, by omega, by omega, by rw [h0]; decide, fun he => absurd he hl, fun _ => by rw [h0]; decide⟩
theorem neg_back (j : Nat) : (-1 - (-1 - nI j) : Int32) = nI j := by
  rw [Int32.sub_eq_add_neg, Int32.neg_sub, Int32.sub_eq_add_neg, ← Int32.add_assoc, Int32.add_comm (-1) (nI j), Int32.add_assoc]
  exact Int32.add_zero _
theorem not_full {C : TS} {e : Nat} (he : e ≤ C.2) (h1 : e < C.2 → ctScan C.1 (e + 1) = -1) (h2 : e = C.2 → ¬ ctScan C.1 e = 5 ∧ ¬ ctScan C.1 e = 3) : ctFull C = false := by
  unfold ctFull
  by_cases c : e = C.2
  · obtain ⟨x1, x2⟩ := h2 c
    rw [← c, decide_eq_false x1, decide_eq_false x2]; rfl
  · have := ctScan_bad (n := C.2) (by omega) (h1 (by omega))
    rw [this]; decide
theorem fe_ok {C : TS} {t : Nat → Int32} {L : Nat} (hT : RT C t L) : ∀ (f k : Nat) (nu : Int32), ctScan C.1 k = 0 → k ≤ L → L + 1 ≤ k + f →
    ((feF t L f k nu).1 = -1 ∧ ctFull C = true) ∨ ∃ e, (feF t L f k nu).1 = nI e ∧ e ≤ L ∧ ¬ ctScan C.1 e = -1 ∧ (e < L → ctScan C.1 (e + 1) = -1) ∧ ctFull C = false := by
  have hL := hT.2.1
  have hCL := hT.1
  intro f
  induction f with
  | zero => intro k nu _ h1 h2; omega
  | succ f ih =>
    intro k nu h0 hk hf
    have e : feF t L (f + 1) k nu = if (rpF t L nu k).1 < 0 then (-1 - (rpF t L nu k).1, (rpF t L nu k).2.1, (rpF t L nu k).2.2)
      else if (rpF t L nu k).1 = nI L then (-1, (rpF t L nu k).2.1, (rpF t L nu k).2.2)
      else if t (rpF t L nu k).1.toNatClampNeg = 59 then feF t L f ((rpF t L nu k).1.toNatClampNeg + 1) (rpF t L nu k).2.2
      else ((rpF t L nu k).1, (rpF t L nu k).2.1, (rpF t L nu k).2.2) := rfl
    rcases part_ok (nu := nu) hT hk h0 with ⟨i, v, p1, p2, p3, -, p5, p6, -⟩ | ⟨i, p1, p2, p3, p4, p5, p6⟩
    · rw [p3, if_neg (nI_pos (by omega))] at e
      by_cases c : i = L
      · rw [if_pos (by rw [c])] at e
        refine Or.inl ⟨by rw [e], ?_⟩
        unfold ctFull
        rw [hCL, ← c]
        rcases p5 with h | h
        · rw [h]; rfl
        · rw [h]; rfl
      · rw [if_neg (fun h => c ((nI_eq (by omega) (by omega)).mp h)), nI_clamp (by omega)] at e
        rcases p6 (by omega) with ⟨h1, h2⟩ | ⟨h1, h2⟩
        · rw [if_pos h1] at e
          rw [e]
          exact ih (i + 1) _ h2 (by omega) (by omega)
        · rw [if_neg h1] at e
          refine Or.inr ⟨i, by rw [e], p2, by rcases p5 with h | h <;> rw [h] <;> decide, fun _ => h2, not_full (e := i) (by omega) (fun _ => h2) fun h => absurd h (by omega)⟩
    · rw [p1, if_pos (neg_of i (by omega))] at e
      refine Or.inr ⟨i, by rw [e]; exact neg_back i, p3, p4, p5, not_full (e := i) (by omega) (fun h => p5 (by omega)) fun h => p6 (by omega)⟩
theorem lsf_at {P : Nat → Bool} {e n : Nat} (he : e ≤ n) (h0 : ∀ j, j < e → ¬ P j = true) (h1 : e < n → P e = true) : lsf P 0 n = e := by
  have key : ∀ i, i ≤ e → lsf P 0 n = lsf P i (n - i) := by
    intro i
    induction i with
    | zero => intro _; rfl
    | succ i ih =>
      intro hi
      rw [ih (by omega), lsf_no (by omega) (h0 i (by omega))]
  rw [key e (Nat.le_refl _)]
  by_cases c : e < n
  · exact lsf_yes c (h1 c)
  · rw [show n - e = 0 by omega]; rfl
theorem ctErr_at {C : TS} {e : Nat} (he : e ≤ C.2) (h0 : ¬ ctScan C.1 e = -1) (h1 : e < C.2 → ctScan C.1 (e + 1) = -1) : ctErr C = e := by
  refine lsf_at he (fun j hj h9 => ?_) fun h => decide_eq_true (h1 h)
  exact h0 (ctScan_bad (by omega) (of_decide_eq_true h9))
/-- firstError: alike -/
theorem err_ok {C : TS} {M : MS} (hT : RT C M.2.2.2.2.1 M.2.2.2.2.2.1) : (mFE M).2 = nI (ctErr C) := by
  have hCL := hT.1
  have hL := hT.2.1
  unfold mFE
  rcases fe_ok hT 61 0 M.2.2.2.2.2.2.2.2.2.2.2 rfl (by omega) (by omega) with ⟨h1, h2⟩ | ⟨e, h1, h2, h3, h4, -⟩
  · show (if _ then _ else _) = _
    rw [h1, if_pos (by decide)]
    have h5 := full_end h2
    rw [ctErr_at (e := C.2) (Nat.le_refl _) (by rcases h5 with h | h <;> rw [h] <;> decide) (fun h => absurd h (Nat.lt_irrefl _)), hCL]
  · show (if _ then _ else _) = _
    rw [h1, if_neg (nI_pos (by omega)), ctErr_at (e := e) (by omega) h3 (fun h => h4 (by omega))]
/-- a complete text: alike -/
theorem full_ok {C : TS} {M : MS} (hT : RT C M.2.2.2.2.1 M.2.2.2.2.2.1) : (feF M.2.2.2.2.1 M.2.2.2.2.2.1 61 0 M.2.2.2.2.2.2.2.2.2.2.2).1 < 0 ↔ ctFull C = true := by
  have hL := hT.2.1
  rcases fe_ok hT 61 0 M.2.2.2.2.2.2.2.2.2.2.2 rfl (by omega) (by omega) with ⟨h1, h2⟩ | ⟨e, h1, h2, -, -, h5⟩
  · rw [h1, h2]; exact ⟨fun _ => rfl, fun _ => by decide⟩
  · rw [h1, h5]; exact ⟨fun h => absurd h (nI_pos (by omega)), fun h => by cases h⟩

/-! ===== what always holds of the model's row, when a plan is made; parts of a text ===== -/
theorem ko_ok {z Q : Nat → Int32} {n : Nat} {s : M3} (hO : ∀ d, d < n → OWV z (z (21 + d))) : ∀ i, i ≤ n → ∀ d, d < i → OWV z ((itr i (koStep z n Q) s).1 d)
  | 0, _, d, h => absurd h (Nat.not_lt_zero _)
  | i + 1, hi, d, hd => by
    have ih := fun h => ko_ok (Q := Q) (s := s) hO i (by omega) d h
    show OWV z ((koStep z n Q i (itr i (koStep z n Q) s)).1 d)
    generalize itr i (koStep z n Q) s = t at ih ⊢
    unfold koStep
    by_cases c1 : z (21 + i) < 0
    · rw [if_pos c1]
      show OWV z (upd t.1 i (-1) d)
      by_cases e : d = i
      · subst e; rw [pk_us]; exact Or.inl rfl
      · rw [pk_un e]; exact ih (by omega)
    · rw [if_neg c1]
      by_cases c2 : Q (z (21 + i)).toNatClampNeg ≤ nI (kaAll z n (z (21 + i)) i)
      · rw [if_pos c2]
        show OWV z (upd t.1 i (-1) d)
        by_cases e : d = i
        · subst e; rw [pk_us]; exact Or.inl rfl
        · rw [pk_un e]; exact ih (by omega)
      · rw [if_neg c2]
        show OWV z (upd (upd t.1 i (-1)) i (nI (z (21 + i)).toNatClampNeg) d)
        by_cases e : d = i
        · subst e
          rw [pk_us]
          rcases hO d (by omega) with h | ⟨k, k1, k2⟩
          · rw [h] at c1; exact absurd (by decide) c1
          · rw [k2, nI_clamp (by have := k1.1; omega)]
            exact Or.inr ⟨k, k1, rfl⟩
        · rw [pk_un e, pk_un e]; exact ih (by omega)
theorem whl_ok {z Q : Nat → Int32} {n : Nat} (hQ : ∀ m, m < 6 → Q m = nI (mQuo z n m)) : ∀ (k : Nat) (s : M3), CapI n Q s → undN s.1 n ≤ k → (∀ d, d < n → OWV z (s.1 d)) → ∀ d, d < n → ∃ q, WK z q ∧ (whl z Q n k s).1 d = nI q := by
  intro k
  induction k with
  | zero =>
    intro s hC hu hs d hd
    show ∃ q, WK z q ∧ s.1 d = nI q
    have hnn : ndAll z s.1 n = none := by
      cases h : ndAll z s.1 n with
      | none => rfl
      | some e =>
        obtain ⟨d1, d2⟩ := ndAll_some n e h
        have := undN_put (v := 0) d1 d2 (by decide)
        omega
    have h0 := ndAll_none n hnn d hd
    rcases hs d hd with h | h
    · rw [h] at h0; exact absurd h0 (by decide)
    · exact h
  | succ k ih =>
    intro s hC hu hs d hd
    cases h : ndAll z s.1 n with
    | none =>
      rw [whl_none h]
      have h0 := ndAll_none n h d hd
      rcases hs d hd with h | h
      · rw [h] at h0; exact absurd h0 (by decide)
      · exact h
    | some e =>
      obtain ⟨m, hm, hm6, hd1, hC2, hu2⟩ := cap_step hC h
      rw [whl_some h hm]
      refine ih _ hC2 (by omega) (fun q hq => ?_) d hd
      show OWV z (upd s.1 e (nI m) q)
      by_cases hqe : q = e
      · subst hqe
        rw [pk_us]
        refine Or.inr ⟨m, ⟨hm6, ?_⟩, rfl⟩
        obtain ⟨m1, m2⟩ := nm_some 6 m hm
        obtain ⟨qn, gn, g1, -⟩ := hC
        obtain ⟨a1, a2, a3, a4⟩ := g1 m hm6
        rw [hQ m hm6, a2] at m2
        by_cases hw : z (81 + m) = 1
        · exact hw
        · unfold mQuo at m2
          rw [if_neg hw, nI_leI (by omega) (by omega)] at m2
          omega
      · rw [pk_un hqe]; exact hs q hq
/-- a plan gives each doorstep to somebody at work -/
theorem mWl_ok {M : MS} {n : Nat} (hM : MI M.2.1 n) (hO : ∀ d, d < n → OWV M.2.1 (M.2.1 (21 + d))) (hw : 0 < cW (zW M.2.1)) : ∀ d, d < n → ∃ q, WK M.2.1 q ∧ (mWl M n).1 d = nI q := by
  unfold mWl mKo
  refine whl_ok (fun m hm => (fq_at M.2.1 n _ 6 m hm).1) n _ (cap_start hM hw) (undN_le _ _) (fun d hd => ?_)
  unfold koAll
  exact ko_ok hO n (Nat.le_refl _) d hd
theorem mSh_goal {M : MS} {n : Nat} (hw : 0 < cW (zW M.2.1)) : (mSh M n).2.2.2.2.2.2.1 = (mWl M n).1 := by
  unfold mSh
  rw [if_neg (by omega)]
theorem dp_at {g z : Nat → Int32} : ∀ n, n ≤ 20 → ∀ j, itr n (dpStep g) z j = if 41 ≤ j ∧ j < 41 + n then g (j - 41) else if 61 ≤ j ∧ j < 61 + n then z (j - 40) else z j
  | 0, _, j => by show z j = _; rw [if_neg (by omega), if_neg (by omega)]
  | n + 1, hn, j => by
    have ih := dp_at (g := g) (z := z) n (by omega)
    show dpStep g n (itr n (dpStep g) z) j = _
    generalize itr n (dpStep g) z = w at ih ⊢
    unfold dpStep
    by_cases e : j = 61 + n
    · subst e
      rw [pk_us, pk_un (by omega), ih, if_neg (by omega), if_neg (by omega), if_neg (by omega), if_pos (by omega), show 61 + n - 40 = 21 + n by omega]
    · rw [pk_un e]
      by_cases e2 : j = 41 + n
      · subst e2
        rw [pk_us, if_pos (by omega), Nat.add_sub_cancel_left]
      · rw [pk_un e2, ih]
        by_cases c : 41 ≤ j ∧ j < 41 + n
        · rw [if_pos c, if_pos (by omega)]
        · rw [if_neg c, if_neg (show ¬ (41 ≤ j ∧ j < 41 + (n + 1)) by omega)]
          by_cases c2 : 61 ≤ j ∧ j < 61 + n
          · rw [if_pos c2, if_pos (by omega)]
          · rw [if_neg c2, if_neg (by omega)]
theorem upd_same {z : Nat → Int32} {k : Nat} {v : Int32} (h : z k = v) : upd z k v = z := by
  funext j
  by_cases e : j = k
  · subst e; rw [pk_us, h]
  · rw [pk_un e]
theorem MJ.plan {M : MS} {n : Nat} (h : MJ M.2.1 n) (h0 : M.2.1 87 = 0) : MJ (mDoPlan M n).2.1 n := by
  show MJ (upd (if mShR M n ≤ 0 then M.2.1 else itr n (dpStep (mSh M n).2.2.2.2.2.2.1) M.2.1) 87 (if mShR M n ≤ 0 then 0 else 1)) n
  by_cases c : mShR M n ≤ 0
  · rw [if_pos c, if_pos c, upd_same h0]; exact h
  · rw [if_neg c, if_neg c]
    have hw : 0 < cW (zW M.2.1) := by
      rcases Nat.eq_zero_or_pos (cW (zW M.2.1)) with hz | hz
      · exfalso
        unfold mShR at c
        rw [if_pos hz] at c
        exact c (by decide)
      · exact hz
    have hg := mWl_ok h.mi h.2.2.2.1 hw
    rw [mSh_goal hw]
    obtain ⟨h1, h2, h3, h4, h5, h6⟩ := h
    have at' := dp_at (g := (mWl M n).1) (z := M.2.1) n h2
    generalize itr n (dpStep (mWl M n).1) M.2.1 = w at at' ⊢
    have hww : ∀ m, m < 6 → upd w 87 1 (81 + m) = M.2.1 (81 + m) := fun m hm => by rw [pk_un (by omega), at', if_neg (by omega), if_neg (by omega)]
    have f21 : ∀ d, d < n → upd w 87 1 (21 + d) = M.2.1 (21 + d) := fun d hd => by rw [pk_un (by omega), at', if_neg (by omega), if_neg (by omega)]
    refine ⟨by rw [pk_un (by omega), at', if_neg (by omega), if_neg (by omega)]; exact h1, h2, fun m hm => by rw [hww m hm]; exact h3 m hm, fun d hd => by rw [f21 d hd]; exact (h4 d hd).same hww, fun d hd => by rw [pk_un (by omega), at', if_neg (by omega), if_neg (by omega)]; exact h5 d hd, Or.inr (Or.inl ⟨pk_us, fun d hd => ?_⟩)⟩
    rw [f21 d hd, pk_un (show 41 + d ≠ 87 by omega), pk_un (show 61 + d ≠ 87 by omega), at', at', if_pos (by omega), if_neg (by omega), if_pos (by omega), Nat.add_sub_cancel_left, show 61 + d - 40 = 21 + d by omega]
    obtain ⟨q, q1, q2⟩ := hg d hd
    exact ⟨⟨q, q1.same hww, q2⟩, rfl⟩
def mN (z : Nat → Int32) : Nat := (z 0).toNatClampNeg
theorem MJ.mn {z : Nat → Int32} {n : Nat} (h : MJ z n) : mN z = n := by
  unfold mN
  rw [h.1, nI_clamp (by have := h.2.1; omega)]
def mNoPart (M : MS) (n : Nat) : Int32 := if M.2.2.2.2.2.2.2.2.2.2.1 = 43 then mNoAdd M.2.1 n M.2.2.2.2.2.2.2.2.2.2.2 else if M.2.2.2.2.2.2.2.2.2.2.1 = 45 then mNoRem M.2.1 n M.2.2.2.2.2.2.2.2.2.2.2
  else if M.2.2.2.2.2.2.2.2.2.2.1 = 99 then mNoCome M.2.1 M.2.2.2.2.2.2.2.2.2.2.2 else if M.2.2.2.2.2.2.2.2.2.2.1 = 100 then 0 else if M.2.2.2.2.2.2.2.2.2.2.1 = 108 then mNoLeave M.2.1 M.2.2.2.2.2.2.2.2.2.2.2
  else if M.2.2.2.2.2.2.2.2.2.2.1 = 112 then mNoPlan M.2.1 else mNoHand M.2.1
/-- one part is done: the model and the answer of its method -/
def mDoPart (M : MS) (n : Nat) : MS × Int32 :=
  if M.2.2.2.2.2.2.2.2.2.2.1 = 43 then (mZ M (upd (upd (upd M.2.1 (1 + n) M.2.2.2.2.2.2.2.2.2.2.2) (21 + n) (-1)) 0 (nI (n + 1))), nI n)
  else if M.2.2.2.2.2.2.2.2.2.2.1 = 45 then (mZ M (rmAll M.2.1 n M.2.2.2.2.2.2.2.2.2.2.2.toNatClampNeg), M.2.1 (21 + M.2.2.2.2.2.2.2.2.2.2.2.toNatClampNeg))
  else if M.2.2.2.2.2.2.2.2.2.2.1 = 99 then (mZ M (upd M.2.1 (81 + M.2.2.2.2.2.2.2.2.2.2.2.toNatClampNeg) 1), nI (cW (zW (upd M.2.1 (81 + M.2.2.2.2.2.2.2.2.2.2.2.toNatClampNeg) 1))))
  else if M.2.2.2.2.2.2.2.2.2.2.1 = 104 then (mZ M (hoZ M.2.1 n), nI (hoAll M.2.1 n).2)
  else if M.2.2.2.2.2.2.2.2.2.2.1 = 108 then (mZ M (dlAll n M.2.2.2.2.2.2.2.2.2.2.2 (upd M.2.1 (81 + M.2.2.2.2.2.2.2.2.2.2.2.toNatClampNeg) 0)), nI (rSz (zO M.2.1) n M.2.2.2.2.2.2.2.2.2.2.2))
  else if M.2.2.2.2.2.2.2.2.2.2.1 = 112 then (mDoPlan M n, mShR M n)
  else if M.2.2.2.2.2.2.2.2.2.2.1 = 120 then (mZ M (upd (coAll M.2.1 n).1 87 0), nI (coAll M.2.1 n).2)
  else (mZ M (upd (dvAll M.2.1 n).1 89 ((dvAll M.2.1 n).1 89 + (dvAll M.2.1 n).2)), (dvAll M.2.1 n).2)
theorem mNoAdd_0 {z : Nat → Int32} {n : Nat} {v : Int32} (h : mNoAdd z n v = 0) : ¬ 0 < z 87 ∧ ¬ n = 20 ∧ isDig v 1 9 = true := by
  unfold mNoAdd at h
  by_cases h1 : isDig v 1 9 = true
  · rw [if_pos h1] at h
    by_cases h2 : 0 < z 87
    · rw [if_pos h2] at h; exact absurd h (by decide)
    · rw [if_neg h2] at h
      by_cases h3 : n = 20
      · rw [if_pos h3] at h; exact absurd h (by decide)
      · exact ⟨h2, h3, h1⟩
  · rw [if_neg h1] at h; exact absurd h (by decide)
theorem mNoRem_0 {z : Nat → Int32} {n : Nat} {x : Int32} (h : mNoRem z n x = 0) : mHas n x = true ∧ z 87 ≤ 0 := by
  unfold mNoRem at h
  by_cases h1 : mHas n x = true
  · rw [if_pos h1] at h
    by_cases h2 : z 87 ≤ 0
    · exact ⟨h1, h2⟩
    · rw [if_neg h2] at h; exact absurd h (by decide)
  · rw [if_neg h1] at h; exact absurd h (by decide)
theorem mNoCome_0 {z : Nat → Int32} {x : Int32} (h : mNoCome z x = 0) : isDig x 0 5 = true ∧ ¬ 0 < z 87 ∧ ¬ z (81 + x.toNatClampNeg) = 1 := by
  unfold mNoCome at h
  by_cases h1 : isDig x 0 5 = true
  · rw [if_pos h1] at h
    by_cases h2 : 0 < z 87
    · rw [if_pos h2] at h; exact absurd h (by decide)
    · rw [if_neg h2] at h
      by_cases h3 : z (81 + x.toNatClampNeg) = 1
      · rw [if_pos h3] at h; exact absurd h (by decide)
      · exact ⟨h1, h2, h3⟩
  · rw [if_neg h1] at h; exact absurd h (by decide)
theorem mNoLeave_0 {z : Nat → Int32} {x : Int32} (h : mNoLeave z x = 0) : isDig x 0 5 = true ∧ ¬ 0 < z 87 ∧ z (81 + x.toNatClampNeg) = 1 := by
  unfold mNoLeave at h
  by_cases h1 : isDig x 0 5 = true
  · rw [if_pos h1] at h
    by_cases h2 : 0 < z 87
    · rw [if_pos h2] at h; exact absurd h (by decide)
    · rw [if_neg h2] at h
      by_cases h3 : z (81 + x.toNatClampNeg) = 1
      · exact ⟨h1, h2, h3⟩
      · rw [if_neg h3] at h; exact absurd h (by decide)
  · rw [if_neg h1] at h; exact absurd h (by decide)
theorem mNoPlan_0 {z : Nat → Int32} (h : mNoPlan z = 0) : ¬ 0 < z 87 ∧ ¬ cW (zW z) = 0 := by
  unfold mNoPlan at h
  by_cases h2 : 0 < z 87
  · rw [if_pos h2] at h; exact absurd h (by decide)
  · rw [if_neg h2] at h
    by_cases h3 : cW (zW z) = 0
    · rw [if_pos h3] at h; exact absurd h (by decide)
    · exact ⟨h2, h3⟩
theorem mNoHand_0 {z : Nat → Int32} (h : mNoHand z = 0) : ¬ z 87 = 0 := by
  unfold mNoHand at h
  intro h2
  rw [if_pos h2] at h; exact absurd h (by decide)
theorem MJ.zero {z : Nat → Int32} {n : Nat} (h : MJ z n) (h0 : ¬ 0 < z 87) : z 87 = 0 := by
  by_cases c : z 87 = 0
  · exact c
  · exact absurd ((i32_pos h.st).1.mpr c) h0
theorem MJ.part {M : MS} {n : Nat} (h : MJ M.2.1 n) (hp : mNoPart M n = 0) : ∃ n2, MJ (mDoPart M n).1.2.1 n2 := by
  unfold mNoPart at hp
  unfold mDoPart
  by_cases c1 : M.2.2.2.2.2.2.2.2.2.2.1 = 43
  · rw [if_pos c1] at hp ⊢
    obtain ⟨p1, p2, p3⟩ := mNoAdd_0 hp
    obtain ⟨p, q1, q2, q3⟩ := dig_p p3
    rw [q3]
    exact ⟨n + 1, h.add (h.zero p1) (by have := h.2.1; omega) ⟨q1, q2⟩⟩
  rw [if_neg c1] at hp ⊢
  by_cases c2 : M.2.2.2.2.2.2.2.2.2.2.1 = 45
  · rw [if_pos c2] at hp ⊢
    obtain ⟨p1, p2⟩ := mNoRem_0 hp
    obtain ⟨k, k1, k2⟩ := mHas_nat h.2.1 p1
    rw [k2, nI_clamp (by have := h.2.1; omega)]
    exact ⟨n - 1, h.rem ((i32_pos h.st).2.mp p2) k1⟩
  rw [if_neg c2] at hp ⊢
  by_cases c3 : M.2.2.2.2.2.2.2.2.2.2.1 = 99
  · rw [if_pos c3] at hp ⊢
    obtain ⟨p1, p2, p3⟩ := mNoCome_0 hp
    obtain ⟨k, k1, k2⟩ := dig_nat p1
    rw [k2, nI_clamp (by omega)]
    exact ⟨n, h.come (h.zero p2) k1⟩
  rw [if_neg c3] at hp ⊢
  by_cases c4 : M.2.2.2.2.2.2.2.2.2.2.1 = 104
  · have c5 : ¬ M.2.2.2.2.2.2.2.2.2.2.1 = 100 := fun h => absurd (c4.symm.trans h) (by decide)
    have c6 : ¬ M.2.2.2.2.2.2.2.2.2.2.1 = 108 := fun h => absurd (c4.symm.trans h) (by decide)
    have c7 : ¬ M.2.2.2.2.2.2.2.2.2.2.1 = 112 := fun h => absurd (c4.symm.trans h) (by decide)
    rw [if_neg c5, if_neg c6, if_neg c7] at hp
    rw [if_pos c4]
    exact ⟨n, h.hand (mNoHand_0 hp)⟩
  rw [if_neg c4]
  by_cases c5 : M.2.2.2.2.2.2.2.2.2.2.1 = 108
  · have c6 : ¬ M.2.2.2.2.2.2.2.2.2.2.1 = 100 := fun h => absurd (c5.symm.trans h) (by decide)
    rw [if_neg c6, if_pos c5] at hp
    rw [if_pos c5]
    obtain ⟨p1, p2, p3⟩ := mNoLeave_0 hp
    obtain ⟨k, k1, k2⟩ := dig_nat p1
    rw [k2, nI_clamp (by omega)]
    exact ⟨n, h.leave (h.zero p2) k1⟩
  rw [if_neg c5] at hp ⊢
  by_cases c6 : M.2.2.2.2.2.2.2.2.2.2.1 = 112
  · have c7 : ¬ M.2.2.2.2.2.2.2.2.2.2.1 = 100 := fun h => absurd (c6.symm.trans h) (by decide)
    rw [if_neg c7, if_pos c6] at hp
    rw [if_pos c6]
    exact ⟨n, h.plan (h.zero (mNoPlan_0 hp).1)⟩
  rw [if_neg c6] at hp ⊢
  by_cases c7 : M.2.2.2.2.2.2.2.2.2.2.1 = 120
  · have c8 : ¬ M.2.2.2.2.2.2.2.2.2.2.1 = 100 := fun h => absurd (c7.symm.trans h) (by decide)
    rw [if_neg c8] at hp
    rw [if_pos c7]
    exact ⟨n, h.off (mNoHand_0 hp)⟩
  rw [if_neg c7]
  exact ⟨n, h.dlv _⟩

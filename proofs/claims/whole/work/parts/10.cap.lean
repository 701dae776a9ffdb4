/-! ===== counting: there is always somebody with room ===== -/
def cnt (n : Nat) (P : Nat → Bool) : Nat := itr n (fun m x => if P m = true then x + 1 else x) 0
def sumN (n : Nat) (f : Nat → Nat) : Nat := itr n (fun m x => x + f m) 0
theorem cnt_s (n : Nat) (P : Nat → Bool) : cnt (n + 1) P = if P n = true then cnt n P + 1 else cnt n P := rfl
theorem sumN_s (n : Nat) (f : Nat → Nat) : sumN (n + 1) f = sumN n f + f n := rfl
theorem cnt_le (n : Nat) (P : Nat → Bool) : cnt n P ≤ n := by
  induction n with
  | zero => exact Nat.le_refl _
  | succ n ih => rw [cnt_s]; split <;> omega
theorem cnt_mono {n : Nat} {P Q : Nat → Bool} (h : ∀ o, o < n → P o = true → Q o = true) : cnt n P ≤ cnt n Q := by
  induction n with
  | zero => exact Nat.le_refl _
  | succ n ih =>
    have := ih (fun o ho => h o (by omega))
    rw [cnt_s, cnt_s]
    by_cases hp : P n = true
    · rw [if_pos hp, if_pos (h n (by omega) hp)]; omega
    · rw [if_neg hp]; split <;> omega
theorem cnt_strict {n m : Nat} {P Q : Nat → Bool} (h : ∀ o, o < n → P o = true → Q o = true) (hm : m < n) (hq : Q m = true) (hp : ¬ P m = true) : cnt n P < cnt n Q := by
  induction n with
  | zero => exact absurd hm (Nat.not_lt_zero _)
  | succ n ih =>
    rw [cnt_s, cnt_s]
    by_cases e : m = n
    · subst e
      rw [if_neg hp, if_pos hq]
      have := cnt_mono (n := m) (P := P) (Q := Q) (fun o ho => h o (by omega))
      omega
    · have := ih (fun o ho => h o (by omega)) (by omega)
      by_cases hpn : P n = true
      · rw [if_pos hpn, if_pos (h n (by omega) hpn)]; omega
      · rw [if_neg hpn]; split <;> omega
theorem cnt_miss {n : Nat} {P Q : Nat → Bool} (h : cnt n P < cnt n Q) : ∃ m, m < n ∧ Q m = true ∧ ¬ P m = true := by
  induction n with
  | zero => exact absurd h (Nat.lt_irrefl _)
  | succ n ih =>
    by_cases hc : Q n = true ∧ ¬ P n = true
    · exact ⟨n, by omega, hc⟩
    · have h2 : cnt n P < cnt n Q := by
        rw [cnt_s, cnt_s] at h
        by_cases hq : Q n = true
        · have hp : P n = true := by
            by_cases hp : P n = true
            · exact hp
            · exact absurd ⟨hq, hp⟩ hc
          rw [if_pos hq, if_pos hp] at h; omega
        · rw [if_neg hq] at h
          split at h <;> omega
      obtain ⟨m, h1, h3⟩ := ih h2
      exact ⟨m, by omega, h3⟩
theorem arg_max {n : Nat} (P : Nat → Bool) (K : Nat → Nat) (h : ∃ m, m < n ∧ P m = true) : ∃ m, m < n ∧ P m = true ∧ ∀ o, o < n → P o = true → K o ≤ K m := by
  induction n with
  | zero => obtain ⟨m, h1, -⟩ := h; exact absurd h1 (Nat.not_lt_zero _)
  | succ n ih =>
    by_cases hx : ∃ m, m < n ∧ P m = true
    · obtain ⟨m, h1, h2, h3⟩ := ih hx
      by_cases hc : P n = true ∧ K m < K n
      · refine ⟨n, by omega, hc.1, fun o ho hp => ?_⟩
        by_cases e : o = n
        · rw [e]; exact Nat.le_refl _
        · exact Nat.le_trans (h3 o (by omega) hp) (Nat.le_of_lt hc.2)
      · refine ⟨m, by omega, h2, fun o ho hp => ?_⟩
        by_cases e : o = n
        · subst e
          by_cases hk : K m < K o
          · exact absurd ⟨hp, hk⟩ hc
          · omega
        · exact h3 o (by omega) hp
    · obtain ⟨m, h1, h2⟩ := h
      have e : m = n := by
        by_cases e : m = n
        · exact e
        · exact absurd ⟨m, by omega, h2⟩ hx
      subst e
      refine ⟨m, by omega, h2, fun o ho hp => ?_⟩
      by_cases e : o = m
      · rw [e]; exact Nat.le_refl _
      · exact absurd ⟨o, by omega, hp⟩ hx
/-- ranks are 0, 1, 2 ..: at least r of the set S have a rank below r -/
theorem rank_cnt (n : Nat) (S : Nat → Bool) (K : Nat → Nat) : ∀ r, r ≤ cnt n S → r ≤ cnt n (fun m => S m && decide (cnt n (fun o => S o && decide (K m < K o)) < r))
  | 0, _ => Nat.zero_le _
  | r + 1, hr => by
    have ih := rank_cnt n S K r (by omega)
    have hmono : cnt n (fun m => S m && decide (cnt n (fun o => S o && decide (K m < K o)) < r)) ≤ cnt n (fun m => S m && decide (cnt n (fun o => S o && decide (K m < K o)) < r + 1)) :=
      cnt_mono (fun o _ h => by simp only [Bool.and_eq_true, decide_eq_true_eq] at h ⊢; exact ⟨h.1, by omega⟩)
    by_cases he : cnt n (fun m => S m && decide (cnt n (fun o => S o && decide (K m < K o)) < r)) = r
    · obtain ⟨m0, a1, a2, a3⟩ := cnt_miss (n := n) (P := fun m => S m && decide (cnt n (fun o => S o && decide (K m < K o)) < r)) (Q := S) (by omega)
      obtain ⟨m, b1, b2, b3⟩ := arg_max (n := n) (fun m => S m && !decide (cnt n (fun o => S o && decide (K m < K o)) < r)) K ⟨m0, a1, by
        simp only [Bool.and_eq_true, decide_eq_true_eq, not_and, Bool.not_eq_true'] at a3 ⊢
        exact ⟨a2, decide_eq_false (a3 a2)⟩⟩
      simp only [Bool.and_eq_true, Bool.not_eq_true', decide_eq_false_iff_not] at b2
      have hle : cnt n (fun o => S o && decide (K m < K o)) ≤ r := by
        have : cnt n (fun o => S o && decide (K m < K o)) ≤ cnt n (fun m => S m && decide (cnt n (fun o => S o && decide (K m < K o)) < r)) := by
          refine cnt_mono (fun o ho h => ?_)
          simp only [Bool.and_eq_true, decide_eq_true_eq] at h ⊢
          refine ⟨h.1, ?_⟩
          by_cases hx : cnt n (fun q => S q && decide (K o < K q)) < r
          · exact hx
          · have := b3 o ho (by simp only [Bool.and_eq_true, Bool.not_eq_true', decide_eq_false_iff_not]; exact ⟨h.1, hx⟩)
            omega
        omega
      have := cnt_strict (n := n) (m := m) (P := fun m => S m && decide (cnt n (fun o => S o && decide (K m < K o)) < r)) (Q := fun m => S m && decide (cnt n (fun o => S o && decide (K m < K o)) < r + 1))
        (fun o _ h => by simp only [Bool.and_eq_true, decide_eq_true_eq] at h ⊢; exact ⟨h.1, by omega⟩) b1 (by simp only [Bool.and_eq_true, decide_eq_true_eq]; exact ⟨b2.1, by omega⟩)
        (by simp only [Bool.and_eq_true, decide_eq_true_eq, not_and]; exact fun _ => b2.2)
      omega
    · omega
theorem sumN_congr {n : Nat} {f g : Nat → Nat} (h : ∀ m, m < n → f m = g m) : sumN n f = sumN n g := by
  induction n with
  | zero => rfl
  | succ n ih => rw [sumN_s, sumN_s, ih (fun m hm => h m (by omega)), h n (by omega)]
theorem sumN_le {n : Nat} {f g : Nat → Nat} (h : ∀ m, m < n → f m ≤ g m) : sumN n f ≤ sumN n g := by
  induction n with
  | zero => exact Nat.le_refl _
  | succ n ih => have := ih (fun m hm => h m (by omega)); have := h n (by omega); rw [sumN_s, sumN_s]; omega
theorem sumN_at {n m : Nat} {f : Nat → Nat} (hm : m < n) : f m ≤ sumN n f := by
  induction n with
  | zero => exact absurd hm (Nat.not_lt_zero _)
  | succ n ih =>
    rw [sumN_s]
    by_cases e : m = n
    · subst e; omega
    · have := ih (by omega); omega
theorem sumN_pos {n : Nat} {f : Nat → Nat} (h : 0 < sumN n f) : ∃ m, m < n ∧ 0 < f m := by
  induction n with
  | zero => exact absurd h (Nat.lt_irrefl _)
  | succ n ih =>
    by_cases hf : 0 < f n
    · exact ⟨n, by omega, hf⟩
    · rw [sumN_s] at h
      obtain ⟨m, h1, h2⟩ := ih (by omega)
      exact ⟨m, by omega, h2⟩
/-- one place one more -/
theorem sumN_inc {n m : Nat} {f g : Nat → Nat} (hm : m < n) (h1 : g m = f m + 1) (h2 : ∀ o, o < n → o ≠ m → g o = f o) : sumN n g = sumN n f + 1 := by
  induction n with
  | zero => exact absurd hm (Nat.not_lt_zero _)
  | succ n ih =>
    rw [sumN_s, sumN_s]
    by_cases e : m = n
    · subst e
      rw [sumN_congr (g := f) (fun o ho => h2 o (by omega) (by omega)), h1]; omega
    · rw [ih (by omega) (fun o ho => h2 o (by omega)), h2 n (by omega) (fun e2 => e e2.symm)]; omega
theorem sumN_sub (n : Nat) (q g : Nat → Nat) : sumN n q ≤ sumN n (fun m => q m - g m) + sumN n g := by
  induction n with
  | zero => exact Nat.le_refl _
  | succ n ih => rw [sumN_s, sumN_s, sumN_s]; omega
theorem sumN_split (n : Nat) (W B : Nat → Bool) (a : Nat) : sumN n (fun m => if W m = true then (if B m = true then a + 1 else a) else 0) = a * cnt n W + cnt n (fun m => W m && B m) := by
  induction n with
  | zero => rfl
  | succ n ih =>
    rw [sumN_s, cnt_s, cnt_s, ih]
    cases hW : W n <;> cases hB : B n <;> simp [Nat.mul_add] <;> omega
/-! ===== the model: enough room for all ===== -/
def undN (g : Nat → Int32) (n : Nat) : Nat := itr n (fun d x => if 0 ≤ g d then x else x + 1) 0
theorem undN_s (g : Nat → Int32) (n : Nat) : undN g (n + 1) = if 0 ≤ g n then undN g n else undN g n + 1 := rfl
theorem undN_le (g : Nat → Int32) (n : Nat) : undN g n ≤ n := by
  induction n with
  | zero => exact Nat.le_refl _
  | succ n ih => rw [undN_s]; generalize undN g n = x at ih ⊢; split <;> omega
theorem undN_off {g : Nat → Int32} {d n : Nat} {v : Int32} (h : n ≤ d) : undN (upd g d v) n = undN g n := by
  induction n with
  | zero => exact (show (0 : Nat) = 0 from rfl)
  | succ n ih =>
    have h1 := ih (by omega)
    have e : upd g d v n = g n := pk_un (show n ≠ d by omega)
    rw [undN_s, undN_s]
    generalize undN g n = x at h1 ⊢
    generalize undN (upd g d v) n = y at h1 ⊢
    subst h1
    rw [e]
theorem undN_put {g : Nat → Int32} {d n : Nat} {v : Int32} (h : d < n) (h0 : ¬ 0 ≤ g d) (hv : 0 ≤ v) : undN (upd g d v) n + 1 = undN g n := by
  induction n with
  | zero => exact absurd h (Nat.not_lt_zero _)
  | succ n ih =>
    rw [undN_s, undN_s]
    by_cases e : d = n
    · subst e
      rw [undN_off (Nat.le_refl _), pk_us, if_pos hv, if_neg h0]
    · rw [pk_un (show n ≠ d by omega), ← ih (by omega)]
      split <;> rfl
theorem ndAll_some {z g : Nat → Int32} : ∀ (n d : Nat), ndAll z g n = some d → d < n ∧ ¬ 0 ≤ g d
  | 0, d, h => by cases h
  | n + 1, d, h => by
    have ih := fun q hq => ndAll_some (z := z) (g := g) n q hq
    change ndStep z g n (ndAll z g n) = some d at h
    unfold ndStep at h
    by_cases h0 : 0 ≤ g n
    · rw [if_pos h0] at h
      have := ih d h
      exact ⟨by omega, this.2⟩
    · rw [if_neg h0] at h
      cases hb : ndAll z g n with
      | none => rw [hb] at h; cases h; exact ⟨by omega, h0⟩
      | some j =>
        rw [hb] at h
        dsimp only at h
        split at h
        · cases h; exact ⟨by omega, h0⟩
        · have e := Option.some.inj h
          have := ih j hb
          rw [← e]
          exact ⟨by omega, this.2⟩
theorem ndAll_none {z g : Nat → Int32} : ∀ (n : Nat), ndAll z g n = none → ∀ d, d < n → 0 ≤ g d
  | 0, _, d, hd => absurd hd (Nat.not_lt_zero _)
  | n + 1, h, d, hd => by
    change ndStep z g n (ndAll z g n) = none at h
    unfold ndStep at h
    by_cases h0 : 0 ≤ g n
    · rw [if_pos h0] at h
      by_cases e : d = n
      · rw [e]; exact h0
      · exact ndAll_none n h d (by omega)
    · rw [if_neg h0] at h
      cases hb : ndAll z g n with
      | none => rw [hb] at h; cases h
      | some j => rw [hb] at h; dsimp only at h; split at h <;> cases h
theorem nm_some {Q v p : Nat → Int32} : ∀ (n m : Nat), itr n (nmStep Q v p) none = some m → m < n ∧ ¬ Q m ≤ v m
  | 0, m, h => by cases h
  | n + 1, m, h => by
    have ih := fun q hq => nm_some (Q := Q) (v := v) (p := p) n q hq
    change nmStep Q v p n (itr n (nmStep Q v p) none) = some m at h
    generalize itr n (nmStep Q v p) none = b at h ih
    unfold nmStep at h
    by_cases h0 : Q n ≤ v n
    · rw [if_pos h0] at h
      have := ih m h
      exact ⟨by omega, this.2⟩
    · rw [if_neg h0] at h
      cases b with
      | none => cases h; exact ⟨by omega, h0⟩
      | some j =>
        dsimp only at h
        split at h
        · have e := Option.some.inj h
          have := ih j rfl
          rw [← e]
          exact ⟨by omega, this.2⟩
        · cases h; exact ⟨by omega, h0⟩
theorem nm_none {Q v p : Nat → Int32} : ∀ (n : Nat), itr n (nmStep Q v p) none = none → ∀ m, m < n → Q m ≤ v m
  | 0, _, m, hm => absurd hm (Nat.not_lt_zero _)
  | n + 1, h, m, hm => by
    have ih := nm_none (Q := Q) (v := v) (p := p) n
    change nmStep Q v p n (itr n (nmStep Q v p) none) = none at h
    generalize itr n (nmStep Q v p) none = b at h ih
    unfold nmStep at h
    by_cases h0 : Q n ≤ v n
    · rw [if_pos h0] at h
      by_cases e : m = n
      · rw [e]; exact h0
      · exact ih h m (by omega)
    · rw [if_neg h0] at h
      cases b with
      | none => cases h
      | some j => dsimp only at h; split at h <;> cases h
def CapI (n : Nat) (Q : Nat → Int32) (s : M3) : Prop := ∃ qn gn : Nat → Nat, (∀ m, m < 6 → Q m = nI (qn m) ∧ s.2.1 m = nI (gn m) ∧ qn m ≤ 30 ∧ gn m + undN s.1 n ≤ 30) ∧ undN s.1 n ≤ sumN 6 (fun m => qn m - gn m)
theorem cap_step {z : Nat → Int32} {n d : Nat} {Q : Nat → Int32} {s : M3} (hC : CapI n Q s) (hd : ndAll z s.1 n = some d) :
    ∃ m, nmAll Q s.2.1 s.2.2 = some m ∧ m < 6 ∧ d < n ∧ CapI n Q (gvM z d m s) ∧ undN (gvM z d m s).1 n + 1 = undN s.1 n := by
  obtain ⟨qn, gn, h1, h2⟩ := hC
  obtain ⟨d1, d2⟩ := ndAll_some n d hd
  cases hm : nmAll Q s.2.1 s.2.2 with
  | none =>
    exfalso
    have h3 := nm_none 6 hm
    have hu : 0 < undN s.1 n := by rw [← undN_put (v := 0) d1 d2 (by decide)]; exact Nat.succ_pos _
    obtain ⟨m, m1, m2⟩ := sumN_pos (Nat.lt_of_lt_of_le hu h2)
    obtain ⟨a1, a2, a3, a4⟩ := h1 m m1
    have := h3 m m1
    rw [a1, a2, nI_leI (by omega) (by omega)] at this
    omega
  | some m =>
    obtain ⟨m1, m2⟩ := nm_some 6 m hm
    obtain ⟨a1, a2, a3, a4⟩ := h1 m m1
    rw [a1, a2, nI_leI (by omega) (by omega)] at m2
    have hu : undN (gvM z d m s).1 n + 1 = undN s.1 n := undN_put d1 d2 (nI_pos' (by omega))
    refine ⟨m, rfl, m1, d1, ⟨qn, fun o => if o = m then gn o + 1 else gn o, fun o ho => ?_, ?_⟩, hu⟩
    · obtain ⟨b1, b2, b3, b4⟩ := h1 o ho
      refine ⟨b1, ?_, b3, ?_⟩
      · by_cases e : o = m
        · subst e
          show upd s.2.1 o (s.2.1 o + 1) o = nI (if o = o then gn o + 1 else gn o)
          rw [pk_us, if_pos rfl, b2]; exact nI_add _ 1
        · show upd s.2.1 m (s.2.1 m + 1) o = nI (if o = m then gn o + 1 else gn o)
          rw [pk_un e, if_neg e, b2]
      · dsimp only
        split <;> omega
    · have hs : sumN 6 (fun o => qn o - gn o) = sumN 6 (fun o => qn o - (if o = m then gn o + 1 else gn o)) + 1 :=
        sumN_inc m1 (by rw [if_pos rfl]; omega) (fun o _ ho => by rw [if_neg ho])
      dsimp only at hs ⊢
      omega

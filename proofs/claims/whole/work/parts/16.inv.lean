/-! ===== what always holds of the model's row ===== -/
def WK (z : Nat → Int32) (k : Nat) : Prop := k < 6 ∧ z (81 + k) = 1
def OWV (z : Nat → Int32) (x : Int32) : Prop := x = -1 ∨ ∃ k, WK z k ∧ x = nI k
def HD1 (z : Nat → Int32) (n : Nat) : Prop := ∀ d, d < n → (∃ k, WK z k ∧ z (41 + d) = nI k) ∧ z (21 + d) = z (61 + d)
def HD2 (z : Nat → Int32) (n : Nat) : Prop := ∀ d, d < n → (∃ k, WK z k ∧ z (41 + d) = nI k) ∧ OWV z (z (61 + d)) ∧ z (21 + d) = (if z (41 + d) = z (61 + d) then z (61 + d) else -1)
def MJ (z : Nat → Int32) (n : Nat) : Prop :=
  z 0 = nI n ∧ n ≤ 20 ∧ (∀ m, m < 6 → z (81 + m) = 0 ∨ z (81 + m) = 1) ∧ (∀ d, d < n → OWV z (z (21 + d))) ∧ (∀ d, d < n → ∃ p, 1 ≤ p ∧ p ≤ 9 ∧ z (1 + d) = nI p) ∧ (z 87 = 0 ∨ (z 87 = 1 ∧ HD1 z n) ∨ (z 87 = 2 ∧ HD2 z n))
theorem OWV.va {z : Nat → Int32} {x : Int32} (h : OWV z x) : x = -1 ∨ ∃ k, k < 6 ∧ x = nI k := by
  rcases h with h | ⟨k, h1, h2⟩
  · exact Or.inl h
  · exact Or.inr ⟨k, h1.1, h2⟩
theorem MJ.mi {z : Nat → Int32} {n : Nat} (h : MJ z n) : MI z n := ⟨h.1, h.2.1, h.2.2.1, fun d hd => (h.2.2.2.1 d hd).va⟩
theorem OWV.same {z w : Nat → Int32} {x : Int32} (h : OWV z x) (hw : ∀ m, m < 6 → w (81 + m) = z (81 + m)) : OWV w x := by
  rcases h with h | ⟨k, h1, h2⟩
  · exact Or.inl h
  · exact Or.inr ⟨k, ⟨h1.1, by rw [hw k h1.1]; exact h1.2⟩, h2⟩
theorem WK.same {z w : Nat → Int32} {k : Nat} (h : WK z k) (hw : ∀ m, m < 6 → w (81 + m) = z (81 + m)) : WK w k := ⟨h.1, by rw [hw k h.1]; exact h.2⟩
/-- a row that differs in the counts alone -/
theorem MJ.counts {z w : Nat → Int32} {n : Nat} (h : MJ z n) (he : ∀ j, j < 88 → w j = z j) : MJ w n := by
  obtain ⟨h1, h2, h3, h4, h5, h6⟩ := h
  have hw : ∀ m, m < 6 → w (81 + m) = z (81 + m) := fun m hm => he _ (by omega)
  refine ⟨by rw [he 0 (by omega)]; exact h1, h2, fun m hm => by rw [hw m hm]; exact h3 m hm, fun d hd => by rw [he _ (by omega)]; exact (h4 d hd).same hw, fun d hd => by rw [he _ (by omega)]; exact h5 d hd, ?_⟩
  rw [he 87 (by omega)]
  rcases h6 with h6 | ⟨h6, h7⟩ | ⟨h6, h7⟩
  · exact Or.inl h6
  · refine Or.inr (Or.inl ⟨h6, fun d hd => ?_⟩)
    rw [he (41 + d) (by omega), he (21 + d) (by omega), he (61 + d) (by omega)]
    obtain ⟨⟨k, k1, k2⟩, h8⟩ := h7 d hd
    exact ⟨⟨k, k1.same hw, k2⟩, h8⟩
  · refine Or.inr (Or.inr ⟨h6, fun d hd => ?_⟩)
    rw [he (41 + d) (by omega), he (21 + d) (by omega), he (61 + d) (by omega)]
    obtain ⟨⟨k, k1, k2⟩, h8, h9⟩ := h7 d hd
    exact ⟨⟨k, k1.same hw, k2⟩, h8.same hw, h9⟩
theorem i32_pos {x : Int32} (h : x = 0 ∨ x = 1 ∨ x = 2) : (0 < x ↔ ¬ x = 0) ∧ (x ≤ 0 ↔ x = 0) := by
  rcases h with h | h | h <;> subst h <;> decide
theorem MJ.st {z : Nat → Int32} {n : Nat} (h : MJ z n) : z 87 = 0 ∨ z 87 = 1 ∨ z 87 = 2 := by
  rcases h.2.2.2.2.2 with h | ⟨h, -⟩ | ⟨h, -⟩
  · exact Or.inl h
  · exact Or.inr (Or.inl h)
  · exact Or.inr (Or.inr h)
theorem dig_p {v : Int32} (h : isDig v 1 9 = true) : ∃ p, 1 ≤ p ∧ p ≤ 9 ∧ v = nI p := by
  unfold isDig at h
  simp only [Bool.and_eq_true, Bool.not_eq_true', decide_eq_false_iff_not] at h
  have h0 : ¬ v < 0 := by
    have h1 := h.1
    rw [Int32.lt_iff_toInt_lt] at h1 ⊢
    have e1 : (1 : Int32).toInt = 1 := by decide
    have e0 : (0 : Int32).toInt = 0 := by decide
    omega
  obtain ⟨k, hk, rfl⟩ := nI_of h0
  have a1 : ¬ k < 1 := fun q => h.1 ((nI_ltI (a := k) (b := 1) hk (by omega)).mpr q)
  have a2 : ¬ 9 < k := fun q => h.2 ((nI_ltI (a := 9) (b := k) (by omega) hk).mpr q)
  exact ⟨k, by omega, by omega, rfl⟩
theorem MJ.add {z : Nat → Int32} {n p : Nat} (h : MJ z n) (h0 : z 87 = 0) (hn : n < 20) (hp : 1 ≤ p ∧ p ≤ 9) : MJ (upd (upd (upd z (1 + n) (nI p)) (21 + n) (-1)) 0 (nI (n + 1))) (n + 1) := by
  obtain ⟨h1, h2, h3, h4, h5, h6⟩ := h
  have hw : ∀ m, m < 6 → (upd (upd (upd z (1 + n) (nI p)) (21 + n) (-1)) 0 (nI (n + 1))) (81 + m) = z (81 + m) := fun m hm => by rw [pk_un (by omega), pk_un (by omega), pk_un (by omega)]
  refine ⟨pk_us, by omega, fun m hm => by rw [hw m hm]; exact h3 m hm, fun d hd => ?_, fun d hd => ?_, Or.inl (by rw [pk_un (by omega), pk_un (by omega), pk_un (by omega)]; exact h0)⟩
  · by_cases e : d = n
    · subst e
      rw [pk_un (by omega), pk_us]; exact Or.inl rfl
    · rw [pk_un (by omega), pk_un (by omega), pk_un (by omega)]
      exact (h4 d (by omega)).same hw
  · by_cases e : d = n
    · subst e
      rw [pk_un (by omega), pk_un (by omega), pk_us]; exact ⟨p, hp.1, hp.2, rfl⟩
    · rw [pk_un (by omega), pk_un (by omega), pk_un (by omega)]
      exact h5 d (by omega)
theorem rm_at {z : Nat → Int32} {k : Nat} : ∀ t, k + t ≤ 19 → ∀ j, itr t (rmStep k) z j = if (1 + k ≤ j ∧ j < 1 + k + t) ∨ (21 + k ≤ j ∧ j < 21 + k + t) then z (j + 1) else z j
  | 0, _, j => by show z j = _; rw [if_neg (by omega)]
  | t + 1, ht, j => by
    have ih := rm_at (z := z) (k := k) t (by omega)
    show rmStep k t (itr t (rmStep k) z) j = _
    generalize itr t (rmStep k) z = w at ih ⊢
    unfold rmStep
    by_cases e : j = 21 + (k + t)
    · subst e
      rw [pk_us, pk_un (by omega), ih, if_neg (by omega), if_pos (by omega)]
    · rw [pk_un e]
      by_cases e2 : j = 1 + (k + t)
      · subst e2
        rw [pk_us, ih, if_neg (by omega), if_pos (by omega)]
      · rw [pk_un e2, ih]
        by_cases c : (1 + k ≤ j ∧ j < 1 + k + t) ∨ (21 + k ≤ j ∧ j < 21 + k + t)
        · rw [if_pos c, if_pos (by omega)]
        · rw [if_neg c, if_neg (by omega)]
theorem rmAll_at {z : Nat → Int32} {n k : Nat} (hn : n ≤ 20) (hk : k < n) (j : Nat) : rmAll z n k j = if j = 0 then nI (n - 1) else if (1 + k ≤ j ∧ j < n) ∨ (21 + k ≤ j ∧ j < 20 + n) then z (j + 1) else z j := by
  unfold rmAll
  rw [rm_at _ (by omega)]
  by_cases e : j = 0
  · subst e; rw [if_neg (by omega), if_pos rfl, pk_us]
  · rw [if_neg e, pk_un e, pk_un (by omega)]
    by_cases c : (1 + k ≤ j ∧ j < n) ∨ (21 + k ≤ j ∧ j < 20 + n)
    · rw [if_pos c, if_pos (by omega)]
    · rw [if_neg c, if_neg (by omega)]
theorem MJ.rem {z : Nat → Int32} {n k : Nat} (h : MJ z n) (h0 : z 87 = 0) (hk : k < n) : MJ (rmAll z n k) (n - 1) := by
  obtain ⟨h1, h2, h3, h4, h5, h6⟩ := h
  have at' := rmAll_at (z := z) h2 hk
  have hw : ∀ m, m < 6 → rmAll z n k (81 + m) = z (81 + m) := fun m hm => by rw [at', if_neg (by omega), if_neg (by omega)]
  refine ⟨by rw [at', if_pos rfl], by omega, fun m hm => by rw [hw m hm]; exact h3 m hm, fun d hd => ?_, fun d hd => ?_, Or.inl (by rw [at', if_neg (by omega), if_neg (by omega)]; exact h0)⟩
  · rw [at', if_neg (by omega)]
    by_cases c : k ≤ d
    · rw [if_pos (by omega)]; exact (h4 (d + 1) (by omega)).same hw
    · rw [if_neg (by omega)]; exact (h4 d (by omega)).same hw
  · rw [at', if_neg (by omega)]
    by_cases c : k ≤ d
    · rw [if_pos (by omega)]; exact h5 (d + 1) (by omega)
    · rw [if_neg (by omega)]; exact h5 d (by omega)
theorem MJ.setp {z : Nat → Int32} {n k p : Nat} (h : MJ z n) (hk : k < n) (hp : 1 ≤ p ∧ p ≤ 9) : MJ (upd z (1 + k) (nI p)) n := by
  obtain ⟨h1, h2, h3, h4, h5, h6⟩ := h
  have hw : ∀ m, m < 6 → upd z (1 + k) (nI p) (81 + m) = z (81 + m) := fun m hm => pk_un (by omega)
  refine ⟨by rw [pk_un (by omega)]; exact h1, h2, fun m hm => by rw [hw m hm]; exact h3 m hm, fun d hd => by rw [pk_un (by omega)]; exact (h4 d hd).same hw, fun d hd => ?_, ?_⟩
  · by_cases e : d = k
    · subst e; rw [pk_us]; exact ⟨p, hp.1, hp.2, rfl⟩
    · rw [pk_un (by omega)]; exact h5 d hd
  · rw [pk_un (show 87 ≠ 1 + k by omega)]
    rcases h6 with h6 | ⟨h6, h7⟩ | ⟨h6, h7⟩
    · exact Or.inl h6
    · refine Or.inr (Or.inl ⟨h6, fun d hd => ?_⟩)
      rw [pk_un (show 41 + d ≠ 1 + k by omega), pk_un (show 21 + d ≠ 1 + k by omega), pk_un (show 61 + d ≠ 1 + k by omega)]
      obtain ⟨⟨q, k1, k2⟩, h8⟩ := h7 d hd
      exact ⟨⟨q, k1.same hw, k2⟩, h8⟩
    · refine Or.inr (Or.inr ⟨h6, fun d hd => ?_⟩)
      rw [pk_un (show 41 + d ≠ 1 + k by omega), pk_un (show 21 + d ≠ 1 + k by omega), pk_un (show 61 + d ≠ 1 + k by omega)]
      obtain ⟨⟨q, k1, k2⟩, h8, h9⟩ := h7 d hd
      exact ⟨⟨q, k1.same hw, k2⟩, h8.same hw, h9⟩
theorem MJ.come {z : Nat → Int32} {n k : Nat} (h : MJ z n) (h0 : z 87 = 0) (hk : k < 6) : MJ (upd z (81 + k) 1) n := by
  obtain ⟨h1, h2, h3, h4, h5, h6⟩ := h
  refine ⟨by rw [pk_un (by omega)]; exact h1, h2, fun m hm => ?_, fun d hd => ?_, fun d hd => by rw [pk_un (by omega)]; exact h5 d hd, Or.inl (by rw [pk_un (by omega)]; exact h0)⟩
  · by_cases e : m = k
    · subst e; rw [pk_us]; exact Or.inr rfl
    · rw [pk_un (by omega)]; exact h3 m hm
  · rw [pk_un (by omega)]
    rcases h4 d hd with h | ⟨q, q1, q2⟩
    · exact Or.inl h
    · refine Or.inr ⟨q, ⟨q1.1, ?_⟩, q2⟩
      by_cases e : q = k
      · subst e; exact pk_us
      · rw [pk_un (by omega)]; exact q1.2
theorem MJ.leave {z : Nat → Int32} {n k : Nat} (h : MJ z n) (h0 : z 87 = 0) (hk : k < 6) : MJ (dlAll n (nI k) (upd z (81 + k) 0)) n := by
  obtain ⟨h1, h2, h3, h4, h5, h6⟩ := h
  unfold dlAll
  refine ⟨by rw [dl_at, if_neg (by omega), pk_un (by omega)]; exact h1, h2, fun m hm => ?_, fun d hd => ?_, fun d hd => by rw [dl_at, if_neg (by omega), pk_un (by omega)]; exact h5 d hd, Or.inl (by rw [dl_at, if_neg (by omega), pk_un (by omega)]; exact h0)⟩
  · rw [dl_at, if_neg (by omega)]
    by_cases e : m = k
    · subst e; rw [pk_us]; exact Or.inl rfl
    · rw [pk_un (by omega)]; exact h3 m hm
  · rw [dl_at, pk_un (show 21 + d ≠ 81 + k by omega)]
    by_cases c : z (21 + d) = nI k
    · rw [if_pos ⟨by omega, by omega, c⟩]; exact Or.inl rfl
    · rw [if_neg (fun h => c h.2.2)]
      rcases h4 d hd with h | ⟨q, q1, q2⟩
      · exact Or.inl h
      · refine Or.inr ⟨q, ⟨q1.1, ?_⟩, q2⟩
        have e : q ≠ k := fun e => c (by rw [q2, e])
        rw [dl_at, if_neg (by omega), pk_un (by omega)]; exact q1.2
theorem co_at {z : Nat → Int32} : ∀ n, n ≤ 20 → ∀ j, (itr n coStep (z, 0)).1 j = if 21 ≤ j ∧ j < 21 + n then z (j + 40) else z j
  | 0, _, j => by show z j = _; rw [if_neg (by omega)]
  | n + 1, hn, j => by
    have ih := co_at (z := z) n (by omega)
    show (coStep n (itr n coStep (z, 0))).1 j = _
    generalize itr n coStep (z, 0) = q at ih ⊢
    unfold coStep
    dsimp only
    by_cases e : j = 21 + n
    · subst e
      rw [pk_us, ih, if_neg (by omega), if_pos (by omega), show 21 + n + 40 = 61 + n by omega]
    · rw [pk_un e, ih]
      by_cases c : 21 ≤ j ∧ j < 21 + n
      · rw [if_pos c, if_pos (by omega)]
      · rw [if_neg c, if_neg (by omega)]
theorem MJ.off {z : Nat → Int32} {n : Nat} (h : MJ z n) (h0 : ¬ z 87 = 0) : MJ (upd (coAll z n).1 87 0) n := by
  obtain ⟨h1, h2, h3, h4, h5, h6⟩ := h
  unfold coAll
  have at' := co_at (z := z) n h2
  generalize (itr n coStep (z, 0)).1 = w at at' ⊢
  have hw : ∀ m, m < 6 → upd w 87 0 (81 + m) = z (81 + m) := fun m hm => by rw [pk_un (by omega), at', if_neg (by omega)]
  refine ⟨by rw [pk_un (by omega), at', if_neg (by omega)]; exact h1, h2, fun m hm => by rw [hw m hm]; exact h3 m hm, fun d hd => ?_, fun d hd => by rw [pk_un (by omega), at', if_neg (by omega)]; exact h5 d hd, Or.inl pk_us⟩
  rw [pk_un (by omega), at', if_pos (by omega), show 21 + d + 40 = 61 + d by omega]
  rcases h6 with h6 | ⟨h6, h7⟩ | ⟨h6, h7⟩
  · exact absurd h6 h0
  · rw [← (h7 d hd).2]; exact (h4 d hd).same hw
  · exact (h7 d hd).2.1.same hw
theorem ho_at {z : Nat → Int32} : ∀ n, n ≤ 20 → (∀ j, (itr n hoStep (z, 0)).1 j = if 21 ≤ j ∧ j < 21 + n ∧ ¬ z (j + 20) = z (j + 40) then (if z 87 = 2 then z (j + 20) else -1) else z j)
  | 0, _, j => by show z j = _; rw [if_neg (by omega)]
  | n + 1, hn, j => by
    have ih := ho_at (z := z) n (by omega)
    show (hoStep n (itr n hoStep (z, 0))).1 j = _
    generalize itr n hoStep (z, 0) = q at ih ⊢
    have e41 : q.1 (41 + n) = z (41 + n) := by rw [ih, if_neg (by omega)]
    have e61 : q.1 (61 + n) = z (61 + n) := by rw [ih, if_neg (by omega)]
    have e87 : q.1 87 = z 87 := by rw [ih, if_neg (by omega)]
    unfold hoStep
    rw [e41, e61, e87]
    by_cases c : z (41 + n) = z (61 + n)
    · rw [if_pos c, ih]
      by_cases d : 21 ≤ j ∧ j < 21 + n ∧ ¬ z (j + 20) = z (j + 40)
      · rw [if_pos d, if_pos (show 21 ≤ j ∧ j < 21 + (n + 1) ∧ ¬ z (j + 20) = z (j + 40) from ⟨d.1, by omega, d.2.2⟩)]
      · rw [if_neg d, if_neg (c := 21 ≤ j ∧ j < 21 + (n + 1) ∧ ¬ z (j + 20) = z (j + 40))]
        intro h
        by_cases e : j = 21 + n
        · subst e
          exact h.2.2 (by rw [show 21 + n + 20 = 41 + n by omega, show 21 + n + 40 = 61 + n by omega]; exact c)
        · exact d ⟨h.1, by omega, h.2.2⟩
    · rw [if_neg c]
      dsimp only
      by_cases e : j = 21 + n
      · subst e
        rw [pk_us, if_pos (show 21 ≤ 21 + n ∧ 21 + n < 21 + (n + 1) ∧ ¬ z (21 + n + 20) = z (21 + n + 40) from ⟨by omega, by omega, by rw [show 21 + n + 20 = 41 + n by omega, show 21 + n + 40 = 61 + n by omega]; exact c⟩), show 21 + n + 20 = 41 + n by omega]
      · rw [pk_un e, ih]
        by_cases d : 21 ≤ j ∧ j < 21 + n ∧ ¬ z (j + 20) = z (j + 40)
        · rw [if_pos d, if_pos (show 21 ≤ j ∧ j < 21 + (n + 1) ∧ ¬ z (j + 20) = z (j + 40) from ⟨d.1, by omega, d.2.2⟩)]
        · rw [if_neg d, if_neg (show ¬ (21 ≤ j ∧ j < 21 + (n + 1) ∧ ¬ z (j + 20) = z (j + 40)) from fun h => d ⟨h.1, by omega, h.2.2⟩)]
theorem MJ.hand {z : Nat → Int32} {n : Nat} (h : MJ z n) (h0 : ¬ z 87 = 0) : MJ (hoZ z n) n := by
  obtain ⟨h1, h2, h3, h4, h5, h6⟩ := h
  have at' := ho_at (z := z) n h2
  unfold hoZ hoAll
  generalize itr n hoStep (z, 0) = q at at' ⊢
  have e87 : q.1 87 = z 87 := by rw [at', if_neg (by omega)]
  rw [pk_un (show 87 ≠ 88 by omega), e87]
  generalize q.1 88 + _ = w88
  generalize hw87 : (if z 87 = 2 then (0 : Int32) else 2) = w87
  have hat : ∀ j, j ≠ 87 → j ≠ 88 → upd (upd q.1 88 w88) 87 w87 j = q.1 j := fun j a b => by rw [pk_un a, pk_un b]
  have hw : ∀ m, m < 6 → upd (upd q.1 88 w88) 87 w87 (81 + m) = z (81 + m) := fun m hm => by rw [hat _ (by omega) (by omega), at', if_neg (by omega)]
  have f21 : ∀ d, d < n → upd (upd q.1 88 w88) 87 w87 (21 + d) = if z (41 + d) = z (61 + d) then z (21 + d) else if z 87 = 2 then z (41 + d) else -1 := fun d hd => by
    rw [hat _ (by omega) (by omega), at', show 21 + d + 20 = 41 + d by omega, show 21 + d + 40 = 61 + d by omega]
    by_cases c : z (41 + d) = z (61 + d)
    · rw [if_pos c, if_neg (show ¬ (21 ≤ 21 + d ∧ 21 + d < 21 + n ∧ ¬ z (41 + d) = z (61 + d)) from fun h => h.2.2 c)]
    · rw [if_neg c, if_pos (show 21 ≤ 21 + d ∧ 21 + d < 21 + n ∧ ¬ z (41 + d) = z (61 + d) from ⟨by omega, by omega, c⟩)]
  have f41 : ∀ d, d < n → upd (upd q.1 88 w88) 87 w87 (41 + d) = z (41 + d) := fun d hd => by rw [hat _ (by omega) (by omega), at', if_neg (by omega)]
  have f61 : ∀ d, d < n → upd (upd q.1 88 w88) 87 w87 (61 + d) = z (61 + d) := fun d hd => by rw [hat _ (by omega) (by omega), at', if_neg (by omega)]
  have hpl : ∀ d, d < n → ∃ k, WK z k ∧ z (41 + d) = nI k := by
    rcases h6 with h6 | ⟨h6, h7⟩ | ⟨h6, h7⟩
    · exact absurd h6 h0
    · exact fun d hd => (h7 d hd).1
    · exact fun d hd => (h7 d hd).1
  refine ⟨by rw [hat _ (by omega) (by omega), at', if_neg (by omega)]; exact h1, h2, fun m hm => by rw [hw m hm]; exact h3 m hm, fun d hd => ?_, fun d hd => by rw [hat _ (by omega) (by omega), at', if_neg (by omega)]; exact h5 d hd, ?_⟩
  · rw [f21 d hd]
    split
    · exact (h4 d hd).same hw
    · split
      · obtain ⟨k, k1, k2⟩ := hpl d hd
        exact Or.inr ⟨k, k1.same hw, k2⟩
      · exact Or.inl rfl
  · rw [pk_us]
    by_cases c2 : z 87 = 2
    · rw [if_pos c2] at hw87; exact Or.inl hw87.symm
    · rw [if_neg c2] at hw87
      refine Or.inr (Or.inr ⟨hw87.symm, fun d hd => ?_⟩)
      rw [f41 d hd, f61 d hd, f21 d hd, if_neg c2]
      rcases h6 with h6 | ⟨h6, h7⟩ | ⟨h6, h7⟩
      · exact absurd h6 h0
      · obtain ⟨⟨k, k1, k2⟩, h8⟩ := h7 d hd
        refine ⟨⟨k, k1.same hw, k2⟩, by rw [← h8]; exact (h4 d hd).same hw, by rw [h8]⟩
      · exact absurd h6 c2
theorem dv_at {z : Nat → Int32} : ∀ n, ∀ j, j ≠ 90 → (itr n dvStep (z, 0)).1 j = z j
  | 0, j, _ => rfl
  | n + 1, j, hj => by
    have ih := dv_at (z := z) n j hj
    show (dvStep n (itr n dvStep (z, 0))).1 j = _
    generalize itr n dvStep (z, 0) = q at ih ⊢
    unfold dvStep
    dsimp only
    rw [pk_un hj, ih]
theorem MJ.dlv {z : Nat → Int32} {n : Nat} (h : MJ z n) (w : Int32) : MJ (upd (dvAll z n).1 89 w) n :=
  h.counts (fun j hj => by rw [pk_un (by omega)]; exact dv_at n j (by omega))

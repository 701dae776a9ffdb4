/-! ===== rows and counts, as lemmas of their own ===== -/
theorem rSz_congr {f g : Nat → Int32} {n : Nat} {y : Int32} (h : ∀ d, d < n → f d = g d) : rSz f n y = rSz g n y :=
  itr_congr n 0 fun d hd x => by unfold szStep; rw [h d hd]
theorem rLd_congr {f g P R : Nat → Int32} {n : Nat} {y : Int32} (h : ∀ d, d < n → f d = g d) (hp : ∀ d, d < n → P d = R d) : rLd P f n y = rLd R g n y :=
  itr_congr n 0 fun d hd x => by unfold ldStep; rw [h d hd, hp d hd]
theorem rSz_s (f : Nat → Int32) (n : Nat) (y : Int32) : rSz f (n + 1) y = if f n = y then rSz f n y + 1 else rSz f n y := rfl
theorem rLd_s (P f : Nat → Int32) (n : Nat) (y : Int32) : rLd P f (n + 1) y = if f n = y then rLd P f n y + P n else rLd P f n y := rfl
theorem rSz_cnt (f : Nat → Int32) (n : Nat) (y : Int32) : rSz f n y = cnt n (fun d => decide (f d = y)) :=
  itr_congr n 0 fun d hd x => by
    show (if f d = y then x + 1 else x) = if decide (f d = y) = true then x + 1 else x
    by_cases e : f d = y
    · rw [if_pos e, decide_eq_true e, if_pos rfl]
    · rw [if_neg e, decide_eq_false e, if_neg (by decide)]
theorem itr_at {f0 : Nat → Int32} {g : Nat → (Nat → Int32) → Nat → Int32} {v : Nat → Int32} (h : ∀ m f, g m f = upd f m (v m)) : ∀ k m, itr k g f0 m = if m < k then v m else f0 m := by
  intro k
  induction k with
  | zero => intro m; rw [if_neg (Nat.not_lt_zero _)]; rfl
  | succ k ih =>
    intro m
    show g k (itr k g f0) m = _
    rw [h]
    by_cases e : m = k
    · subst e; rw [pk_us, if_pos (by omega)]
    · rw [pk_un e, ih m]
      by_cases h1 : m < k
      · rw [if_pos h1, if_pos (by omega)]
      · rw [if_neg h1, if_neg (by omega)]
theorem fill_at (f : Nat → Int32) (n : Nat) (v : Int32) (j : Nat) : rowFill f n v j = if j < n then v else f j := itr_at (v := fun _ => v) (fun _ _ => rfl) n j
theorem copy_at (f g : Nat → Int32) (n j : Nat) : rowCopy f g n j = if j < n then g j else f j := itr_at (v := g) (fun _ _ => rfl) n j
theorem sr_at {O W f : Nat → Int32} {n m : Nat} (hm : m < 6) : srAll O W n f m = if W m = 1 then nI (rSz O n (nI m)) else -1 := by
  have h := itr_at (f0 := f) (g := srStep O W n) (v := fun m => if W m = 1 then nI (rSz O n (nI m)) else -1) (fun m f => by unfold srStep; split <;> rfl) 6 m
  rw [if_pos hm] at h
  exact h
theorem sq_at {R f : Nat → Int32} {q w m : Nat} (hm : m < 6) : sqAll R q w f m = if R m = -1 then 0 else if w ≤ caAll R m then nI q else nI (q + 1) := by
  have h := itr_at (f0 := f) (g := sqStep R q w) (v := fun m => if R m = -1 then 0 else if w ≤ caAll R m then nI q else nI (q + 1)) (fun m f => by unfold sqStep; split; rfl; split <;> rfl) 6 m
  rw [if_pos hm] at h
  exact h
theorem cc_congr {f g O R : Nat → Int32} {n : Nat} (h : ∀ d, d < n → f d = g d) (h2 : ∀ d, d < n → O d = R d) : ccAll f O n = ccAll g R n :=
  itr_congr n 0 fun d hd x => by unfold ccStep; rw [h d hd, h2 d hd]
theorem gap_at {f : Nat → Int32} {n k : Nat} : ∀ t, k + t ≤ n → ∀ j, itr t (fun t g => upd g (k + t) (g (k + t + 1))) f j = if k ≤ j ∧ j < k + t then f (j + 1) else f j := by
  intro t
  induction t with
  | zero => intro _ j; rw [if_neg (by omega)]; rfl
  | succ t ih =>
    intro ht j
    show upd (itr t (fun t g => upd g (k + t) (g (k + t + 1))) f) (k + t) (itr t (fun t g => upd g (k + t) (g (k + t + 1))) f (k + t + 1)) j = _
    by_cases e : j = k + t
    · subst e; rw [pk_us, ih (by omega), if_neg (by omega), if_pos (by omega)]
    · rw [pk_un e, ih (by omega)]
      by_cases h1 : k ≤ j ∧ j < k + t
      · rw [if_pos h1, if_pos (by omega)]
      · rw [if_neg h1, if_neg (by omega)]
theorem rowGap_at {f : Nat → Int32} {n k : Nat} (hk : k < n) (j : Nat) : rowGap f n k j = if k ≤ j ∧ j < n - 1 then f (j + 1) else f j := by
  unfold rowGap
  rw [gap_at (n := n) (n - 1 - k) (by omega)]
  by_cases h1 : k ≤ j ∧ j < n - 1
  · rw [if_pos h1, if_pos (by omega)]
  · rw [if_neg h1, if_neg (by omega)]
theorem ds_at (y : Int32) (O : Nat → Int32) : ∀ i, (∀ d, (itr i (dsStep y) (O, 0)).1 d = if d < i ∧ O d = y then -1 else O d) ∧ (itr i (dsStep y) (O, 0)).2 = rSz O i y := by
  intro i
  induction i with
  | zero => exact ⟨fun d => by rw [if_neg (by omega)]; rfl, rfl⟩
  | succ i ih =>
    obtain ⟨h1, h2⟩ := ih
    show (∀ d, (dsStep y i (itr i (dsStep y) (O, 0))).1 d = _) ∧ (dsStep y i (itr i (dsStep y) (O, 0))).2 = _
    rw [rSz_s]
    generalize itr i (dsStep y) (O, 0) = q at h1 h2
    have hq : q.1 i = O i := by rw [h1 i, if_neg (by omega)]
    unfold dsStep
    rw [hq]
    by_cases e : O i = y
    · rw [if_pos e, if_pos e]
      refine ⟨fun d => ?_, by rw [← h2]⟩
      show upd q.1 i (-1) d = _
      by_cases ed : d = i
      · subst ed; rw [pk_us, if_pos ⟨by omega, e⟩]
      · rw [pk_un ed, h1 d]
        by_cases c : d < i ∧ O d = y
        · rw [if_pos c, if_pos ⟨by omega, c.2⟩]
        · rw [if_neg c, if_neg fun h9 => c ⟨by omega, h9.2⟩]
    · rw [if_neg e, if_neg e]
      refine ⟨fun d => ?_, h2⟩
      rw [h1 d]
      by_cases c : d < i ∧ O d = y
      · rw [if_pos c, if_pos ⟨by omega, c.2⟩]
      · rw [if_neg c, if_neg fun h9 => c ⟨by
          have : d ≠ i := fun h8 => by subst h8; exact e h9.2
          omega, h9.2⟩]
theorem mv_at (N O : Nat → Int32) : ∀ i d, (itr i (mvStep N) (O, 0)).1 d = if d < i then N d else O d := by
  intro i
  induction i with
  | zero => intro d; rw [if_neg (by omega)]; rfl
  | succ i ih =>
    intro d
    show (mvStep N i (itr i (mvStep N) (O, 0))).1 d = _
    generalize itr i (mvStep N) (O, 0) = q at ih
    unfold mvStep
    by_cases c : q.1 i = N i
    · rw [if_pos c]
      by_cases e : d = i
      · subst e; rw [if_pos (by omega)]; exact c
      · rw [ih d]
        by_cases h1 : d < i
        · rw [if_pos h1, if_pos (by omega)]
        · rw [if_neg h1, if_neg (by omega)]
    · rw [if_neg c]
      show upd q.1 i (N i) d = _
      by_cases e : d = i
      · subst e; rw [pk_us, if_pos (by omega)]
      · rw [pk_un e, ih d]
        by_cases h1 : d < i
        · rw [if_pos h1, if_pos (by omega)]
        · rw [if_neg h1, if_neg (by omega)]
theorem gu_at (N O : Nat → Int32) : ∀ i d, (itr i (guStep N) (O, 0)).1 d = if d < i ∧ ¬ O d = -1 ∧ ¬ O d = N d then -1 else O d := by
  intro i
  induction i with
  | zero => intro d; rw [if_neg (by omega)]; rfl
  | succ i ih =>
    intro d
    show (guStep N i (itr i (guStep N) (O, 0))).1 d = _
    generalize itr i (guStep N) (O, 0) = q at ih
    have hq : q.1 i = O i := by rw [ih i, if_neg (by omega)]
    unfold guStep
    rw [hq]
    have hoff : d ≠ i → q.1 d = if d < i + 1 ∧ ¬ O d = -1 ∧ ¬ O d = N d then -1 else O d := fun hd => by
      rw [ih d]
      by_cases c : d < i ∧ ¬ O d = -1 ∧ ¬ O d = N d
      · rw [if_pos c, if_pos ⟨by omega, c.2⟩]
      · rw [if_neg c, if_neg fun h9 => c ⟨by omega, h9.2⟩]
    by_cases c1 : O i = -1
    · rw [if_pos c1]
      by_cases e : d = i
      · subst e; rw [hq, if_neg fun h9 => h9.2.1 c1]
      · exact hoff e
    · rw [if_neg c1]
      by_cases c2 : O i = N i
      · rw [if_pos c2]
        by_cases e : d = i
        · subst e; rw [hq, if_neg fun h9 => h9.2.2 c2]
        · exact hoff e
      · rw [if_neg c2]
        show upd q.1 i (-1) d = _
        by_cases e : d = i
        · subst e; rw [pk_us, if_pos ⟨by omega, c1, c2⟩]
        · rw [pk_un e]; exact hoff e
theorem cW_ex {W : Nat → Int32} (h : ¬ cW W = 0) : ∃ m, m < 6 ∧ W m = 1 := by
  have key : ∀ i, 0 < itr i (cwStep W) 0 → ∃ m, m < i ∧ W m = 1 := by
    intro i
    induction i with
    | zero => intro h; exact absurd h (Nat.lt_irrefl _)
    | succ i ih =>
      intro h
      change 0 < cwStep W i (itr i (cwStep W) 0) at h
      unfold cwStep at h
      by_cases c : W i = 1
      · exact ⟨i, by omega, c⟩
      · rw [if_neg c] at h
        obtain ⟨m, h1, h2⟩ := ih h
        exact ⟨m, by omega, h2⟩
  exact key 6 (Nat.pos_of_ne_zero h)
theorem div_0 : ∀ n, n < 21 → 0 < n → FP.ddiv (FP.i2d (nI 0)) (FP.i2d (nI n)) = FP.dconst0 := by decide +kernel

/-! ===== sharing out: the order of the doorsteps ===== -/
theorem nI_n1 {k : Nat} (h : k < 2147483648) : ¬ (-1 : Int32) = nI k := by
  intro e
  have h1 : ¬ nI k < 0 := nI_pos (by omega)
  rw [← e] at h1
  exact h1 (by decide)
theorem nI_n1' {k : Nat} (h : k < 2147483648) : ¬ nI k = (-1 : Int32) := fun e => nI_n1 h e.symm
def drN (p : Nat → Nat) (x y : Nat) : Bool := decide (p y < p x) || (decide (p x = p y) && decide (x < y))
theorem drN_t {p : Nat → Nat} {x y : Nat} : drN p x y = true ↔ p y < p x ∨ (p x = p y ∧ x < y) := by
  simp [drN]
def bB (F : Nat → Int32) (i x : Nat) : Bool := itr i (fun j b => b || decide (F j = nI x)) false
theorem bB_s (F : Nat → Int32) (i x : Nat) : bB F (i + 1) x = (bB F i x || decide (F i = nI x)) := rfl
theorem bB_t {F : Nat → Int32} {x : Nat} : ∀ i, bB F i x = true ↔ ∃ j, j < i ∧ F j = nI x := by
  intro i
  induction i with
  | zero =>
    constructor
    · intro h; cases h
    · rintro ⟨j, hj, -⟩; omega
  | succ i ih =>
    rw [bB_s, Bool.or_eq_true, ih, decide_eq_true_eq]
    constructor
    · rintro (⟨j, h1, h2⟩ | h)
      · exact ⟨j, by omega, h2⟩
      · exact ⟨i, by omega, h⟩
    · rintro ⟨j, h1, h2⟩
      by_cases e : j = i
      · subst e; exact Or.inr h2
      · exact Or.inl ⟨j, by omega, h2⟩
theorem cnt_congr {n : Nat} {P Q : Nat → Bool} (h : ∀ x, x < n → P x = Q x) : cnt n P = cnt n Q :=
  Nat.le_antisymm (cnt_mono fun o ho hp => by rw [← h o ho]; exact hp) (cnt_mono fun o ho hp => by rw [h o ho]; exact hp)
theorem cnt_set {n x : Nat} {q r : Nat → Bool} (hx : x < n) (h0 : q x = false) (h1 : r x = true) (h2 : ∀ y, y < n → y ≠ x → r y = q y) : cnt n r = cnt n q + 1 := by
  induction n with
  | zero => omega
  | succ n ih =>
    rw [cnt_s, cnt_s]
    by_cases e : x = n
    · subst e
      rw [if_pos h1, h0, if_neg (by decide), cnt_congr (P := r) (Q := q) fun y hy => h2 y (by omega) (by omega)]
    · rw [ih (by omega) (fun y hy hn => h2 y (by omega) hn), h2 n (by omega) (by omega)]
      by_cases h9 : q n = true
      · rw [if_pos h9, if_pos h9]
      · rw [if_neg h9, if_neg h9]
theorem cnt_zero {n : Nat} {q : Nat → Bool} (h : ∀ x, x < n → q x = false) : cnt n q = 0 := by
  induction n with
  | zero => rfl
  | succ n ih => rw [cnt_s, h n (by omega), if_neg (by decide), ih fun x hx => h x (by omega)]
theorem cnt_full {n : Nat} {q : Nat → Bool} (h : ∀ x, x < n → q x = true) : cnt n q = n := by
  induction n with
  | zero => rfl
  | succ n ih => rw [cnt_s, if_pos (h n (by omega)), ih fun x hx => h x (by omega)]
def SoI (p : Nat → Nat) (n : Nat) (q : Nat → Bool) (z : (Nat → Int32) × Nat) : Prop :=
  z.2 = cnt n q ∧ (∀ x, x < n → q x = true → ∃ i, i < z.2 ∧ z.1 i = nI x) ∧ (∀ i, i < z.2 → ∃ x, x < n ∧ q x = true ∧ z.1 i = nI x ∧ ∀ j, j < i → ∃ y, y < n ∧ z.1 j = nI y ∧ drN p y x = true)
theorem SoI.congr {p : Nat → Nat} {n : Nat} {q r : Nat → Bool} {z : (Nat → Int32) × Nat} (h : SoI p n q z) (e : ∀ x, x < n → r x = q x) : SoI p n r z := by
  obtain ⟨h1, h2, h3⟩ := h
  refine ⟨by rw [h1, cnt_congr e], fun x hx hr => h2 x hx (by rw [← e x hx]; exact hr), fun i hi => ?_⟩
  obtain ⟨x, a1, a2, a3⟩ := h3 i hi
  exact ⟨x, a1, by rw [e x a1]; exact a2, a3⟩
theorem SoI.put {p : Nat → Nat} {n x : Nat} {q r : Nat → Bool} {z : (Nat → Int32) × Nat} (h : SoI p n q z) (hn : n ≤ 20) (hx : x < n) (h0 : q x = false) (h1 : r x = true) (h2 : ∀ y, y < n → y ≠ x → r y = q y) (hd : ∀ y, y < n → q y = true → drN p y x = true) : SoI p n r (rowPut z.1 20 (nI z.2) (nI x), z.2 + 1) := by
  obtain ⟨f, k⟩ := z
  obtain ⟨e1, e2, e3⟩ := h
  dsimp only at e1 e2 e3
  have hc := cnt_set hx h0 h1 h2
  have hl := cnt_le n r
  show SoI p n r (rowPut f 20 (nI k) (nI x), k + 1)
  rw [rowPut_in (by omega) (by omega)]
  refine ⟨by show k + 1 = _; omega, fun y hy hr => ?_, fun i hi => ?_⟩
  · by_cases e : y = x
    · subst e; exact ⟨k, by show k < k + 1; omega, by show upd f k (nI y) k = _; rw [pk_us]⟩
    · obtain ⟨i, a1, a2⟩ := e2 y hy (by rw [← h2 y hy e]; exact hr)
      exact ⟨i, by show i < k + 1; omega, by show upd f k (nI x) i = _; rw [pk_un (by omega)]; exact a2⟩
  · have hi' : i < k + 1 := hi
    by_cases e : i = k
    · subst e
      refine ⟨x, hx, h1, by show upd f i (nI x) i = _; rw [pk_us], fun j hj => ?_⟩
      obtain ⟨y, a1, a2, a3, -⟩ := e3 j hj
      exact ⟨y, a1, by show upd f i (nI x) j = _; rw [pk_un (by omega)]; exact a3, hd y a1 a2⟩
    · obtain ⟨y, a1, a2, a3, a4⟩ := e3 i (by omega)
      have hyx : y ≠ x := fun e => by subst e; rw [h0] at a2; cases a2
      refine ⟨y, a1, by rw [h2 y a1 hyx]; exact a2, by show upd f k (nI x) i = _; rw [pk_un (by omega)]; exact a3, fun j hj => ?_⟩
      obtain ⟨w, b1, b2, b3⟩ := a4 j hj
      exact ⟨w, b1, by show upd f k (nI x) j = _; rw [pk_un (by omega)]; exact b2, b3⟩
def prB (p : Nat → Nat) (t d x : Nat) : Bool := decide (9 < p x + t) || (decide (p x + t = 9) && decide (x < d))
theorem prB_t {p : Nat → Nat} {t d x : Nat} : prB p t d x = true ↔ 9 < p x + t ∨ (p x + t = 9 ∧ x < d) := by
  simp [prB]
theorem so_in {P : Nat → Int32} {p : Nat → Nat} {n t : Nat} {z : (Nat → Int32) × Nat} (hn : n ≤ 20) (hp : ∀ d, d < n → 1 ≤ p d ∧ p d ≤ 9 ∧ P d = nI (p d)) (ht : t ≤ 9) (h : SoI p n (prB p t 0) z) :
    ∀ d, d ≤ n → SoI p n (prB p t d) (itr d (soStep P (nI (9 - t))) z) := by
  intro d
  induction d with
  | zero => intro _; exact h
  | succ d ih =>
    intro hd
    have h1 := ih (by omega)
    show SoI p n _ (soStep P (nI (9 - t)) d (itr d (soStep P (nI (9 - t))) z))
    generalize itr d (soStep P (nI (9 - t))) z = w at h1
    obtain ⟨a0, a1, a2⟩ := hp d (by omega)
    unfold soStep
    by_cases e : p d + t = 9
    · rw [if_pos (by rw [a2, show 9 - t = p d by omega])]
      refine h1.put hn (by omega) (Bool.eq_false_iff.mpr fun h9 => ?_) (prB_t.mpr (Or.inr ⟨e, by omega⟩)) (fun y hy hyd => ?_) (fun y hy h9 => ?_)
      · have := prB_t.mp h9; omega
      · exact Bool.eq_iff_iff.mpr (by rw [prB_t, prB_t]; omega)
      · have := prB_t.mp h9; exact drN_t.mpr (by omega)
    · rw [if_neg (by rw [a2, nI_eq (by omega) (by omega)]; omega)]
      refine h1.congr fun y hy => Bool.eq_iff_iff.mpr ?_
      rw [prB_t, prB_t]
      by_cases ey : y = d
      · subst ey; omega
      · omega
theorem so_all {P f : Nat → Int32} {p : Nat → Nat} {n : Nat} (hn : n ≤ 20) (hp : ∀ d, d < n → 1 ≤ p d ∧ p d ≤ 9 ∧ P d = nI (p d)) : ∀ t, t ≤ 9 → SoI p n (prB p t 0) (itr t (soOut P n) (f, 0)) := by
  intro t
  induction t with
  | zero =>
    intro _
    have h0 : ∀ x, x < n → prB p 0 0 x = false := fun x hx => Bool.eq_false_iff.mpr fun h9 => by
      have := prB_t.mp h9; have := hp x hx; omega
    refine ⟨(cnt_zero h0).symm, fun x hx h9 => ?_, fun i hi => ?_⟩
    · rw [h0 x hx] at h9; cases h9
    · exact absurd hi (Nat.not_lt_zero _)
  | succ t ih =>
    intro ht
    have h1 := so_in hn hp (by omega) (ih (by omega)) n (Nat.le_refl _)
    show SoI p n _ (soOut P n t (itr t (soOut P n) (f, 0)))
    unfold soOut
    refine h1.congr fun y hy => Bool.eq_iff_iff.mpr ?_
    rw [prB_t, prB_t]
    omega
def Ord (p : Nat → Nat) (n : Nat) (F : Nat → Int32) : Prop := (∀ x, x < n → ∃ i, i < n ∧ F i = nI x) ∧ ∀ i, i < n → ∃ x, x < n ∧ F i = nI x ∧ ∀ j, j < i → ∃ y, y < n ∧ F j = nI y ∧ drN p y x = true
theorem so_ok {P f : Nat → Int32} {p : Nat → Nat} {n : Nat} (hn : n ≤ 20) (hp : ∀ d, d < n → 1 ≤ p d ∧ p d ≤ 9 ∧ P d = nI (p d)) : Ord p n (soAll P n f).1 := by
  obtain ⟨h1, h2, h3⟩ := so_all (f := f) hn hp 9 (Nat.le_refl _)
  have ha : ∀ x, x < n → prB p 9 0 x = true := fun x hx => prB_t.mpr (by have := hp x hx; omega)
  rw [cnt_full ha] at h1
  show Ord p n (itr 9 (soOut P n) (f, 0)).1
  rw [h1] at h2 h3
  refine ⟨fun x hx => h2 x hx (ha x hx), fun i hi => ?_⟩
  obtain ⟨x, a1, -, a3, a4⟩ := h3 i hi
  exact ⟨x, a1, a3, a4⟩
theorem Ord.b {p : Nat → Nat} {n : Nat} {F : Nat → Int32} (h : Ord p n F) (hn : n ≤ 20) {i x y : Nat} (hi : i < n) (hx : x < n) (he : F i = nI x) (hy : y < n) : bB F i y = drN p y x := by
  refine Bool.eq_iff_iff.mpr ?_
  rw [bB_t]
  constructor
  · rintro ⟨j, h1, h2⟩
    obtain ⟨x', a1, a2, a3⟩ := h.2 i hi
    obtain ⟨y', b1, b2, b3⟩ := a3 j h1
    have e1 := (nI_eq (by omega) (by omega)).mp (he.symm.trans a2)
    have e2 := (nI_eq (by omega) (by omega)).mp (h2.symm.trans b2)
    subst e1; subst e2
    exact b3
  · intro hd
    obtain ⟨j, h1, h2⟩ := h.1 y hy
    have d1 := drN_t.mp hd
    rcases Nat.lt_trichotomy j i with hj | hj | hj
    · exact ⟨j, hj, h2⟩
    · subst hj
      have e1 := (nI_eq (by omega) (by omega)).mp (he.symm.trans h2)
      subst e1
      omega
    · obtain ⟨y', a1, a2, a3⟩ := h.2 j h1
      obtain ⟨x', b1, b2, b3⟩ := a3 i hj
      have e1 := (nI_eq (by omega) (by omega)).mp (h2.symm.trans a2)
      have e2 := (nI_eq (by omega) (by omega)).mp (he.symm.trans b2)
      subst e1; subst e2
      have d2 := drN_t.mp b3
      omega

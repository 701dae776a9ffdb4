/-! ===== sharing out as the law does it: its steps, and that there is always somebody with room ===== -/
def kpStep (p o : Nat → Int32) (v : Int32) (d : Nat) (z : T3) : T3 := if p d = v then (if o d < 0 then z else if z.2.1 (o d).toNatClampNeg = 0 then z else (upd z.1 d (o d), upd z.2.1 (o d).toNatClampNeg (z.2.1 (o d).toNatClampNeg - 1), upd z.2.2 (o d).toNatClampNeg (z.2.2 (o d).toNatClampNeg + v))) else z
def kpOut (n : Nat) (p o : Nat → Int32) (t : Nat) (z : T3) : T3 := itr n (kpStep p o (nI (9 - t))) z
def kpAll (n : Nat) (p o : Nat → Int32) (z : T3) : T3 := itr 9 (kpOut n p o) z
def lbStep (q l : Nat → Int32) (i : Nat) (x : Int32) : Int32 := if q (5 - i) ≤ 0 then x else if x < 0 then nI (5 - i) else if l x.toNatClampNeg < l (5 - i) then x else nI (5 - i)
def lbAll (q l : Nat → Int32) : Int32 := itr 6 (lbStep q l) (-1)
abbrev T4 : Type := (Nat → Int32) × (Nat → Int32) × (Nat → Int32) × Nat
def gvOne (d : Nat) (v b : Int32) (z : T4) : T4 := (upd z.1 d b, upd z.2.1 b.toNatClampNeg (z.2.1 b.toNatClampNeg - 1), upd z.2.2.1 b.toNatClampNeg (z.2.2.1 b.toNatClampNeg + v), z.2.2.2 + 1)
def gvStep (p : Nat → Int32) (v : Int32) (d : Nat) (z : T4) : T4 := if p d = v then (if z.1 d < 0 then gvOne d v (lbAll z.2.1 z.2.2.1) z else z) else z
def gvOut (n : Nat) (p : Nat → Int32) (t : Nat) (z : T4) : T4 := itr n (gvStep p (nI (9 - t))) z
def gvAll (n : Nat) (p : Nat → Int32) (z : T4) : T4 := itr 9 (gvOut n p) z
def fillM (n : Nat) (gl : Nat → Int32) : Nat → Int32 := itr n (fun j g => upd g j (-1)) gl
def lsK (n M : Nat) (p o gl : Nat → Int32) : T3 := kpAll n p o (fillM n gl, qT n M o (n % menN M), fun _ => 0)
def ls0 (n M : Nat) (p o gl : Nat → Int32) : T4 := ((lsK n M p o gl).1, (lsK n M p o gl).2.1, (lsK n M p o gl).2.2, 0)
def lsZ (n M : Nat) (p o gl : Nat → Int32) : T4 := gvAll n p (ls0 n M p o gl)
/-- what the law's sharing out leaves as the plan, and what it answers -/
def lsG (n M : Nat) (p o gl : Nat → Int32) : Nat → Int32 := if menN M = 0 then fillM n gl else (lsZ n M p o gl).1
def lsR (n M : Nat) (p o gl : Nat → Int32) : Int32 := if menN M = 0 then -1 else nI (lsZ n M p o gl).2.2.2
theorem fillM_at (n : Nat) (gl : Nat → Int32) (j : Nat) : fillM n gl j = if j < n then -1 else gl j := itr_at (v := fun _ => -1) (fun _ _ => rfl) n j
theorem lb_step {q l : Nat → Int32} {qn : Nat → Nat} (hq : ∀ m, m < 6 → q m = nI (qn m) ∧ qn m ≤ 30) : ∀ i, i ≤ 6 → (itr i (lbStep q l) (-1) = -1 ∧ ∀ m, m < 6 → 6 - i ≤ m → qn m = 0) ∨
    (∃ b, b < 6 ∧ 6 - i ≤ b ∧ 0 < qn b ∧ itr i (lbStep q l) (-1) = nI b ∧ ∀ m, m < 6 → 6 - i ≤ m → 0 < qn m → l b ≤ l m ∧ (l m ≤ l b → b ≤ m)) := by
  intro i
  induction i with
  | zero => intro _; exact Or.inl ⟨rfl, fun m hm h9 => by omega⟩
  | succ i ih =>
    intro hi
    have ih := ih (by omega)
    show (lbStep q l i (itr i (lbStep q l) (-1)) = -1 ∧ _) ∨ ∃ b, b < 6 ∧ 6 - (i + 1) ≤ b ∧ 0 < qn b ∧ lbStep q l i (itr i (lbStep q l) (-1)) = nI b ∧ _
    generalize itr i (lbStep q l) (-1) = x at ih
    have hm6 : 5 - i < 6 := by omega
    obtain ⟨q1, q2⟩ := hq (5 - i) hm6
    unfold lbStep
    rw [q1]
    by_cases h0 : qn (5 - i) = 0
    · rw [h0, if_pos (by rw [nI_01.1]; decide)]
      rcases ih with ⟨h1, h2⟩ | ⟨b, b1, b2, b3, b4, b5⟩
      · refine Or.inl ⟨h1, fun m hm h3 => ?_⟩
        by_cases e : m = 5 - i
        · rw [e]; exact h0
        · exact h2 m hm (by omega)
      · refine Or.inr ⟨b, b1, by omega, b3, b4, fun m hm h3 h4 => ?_⟩
        by_cases e : m = 5 - i
        · rw [e] at h4; omega
        · exact b5 m hm (by omega) h4
    · rw [if_neg (nI_nle (by omega) (by omega))]
      rcases ih with ⟨rfl, h2⟩ | ⟨b, b1, b2, b3, rfl, b5⟩
      · rw [if_pos (by decide)]
        refine Or.inr ⟨5 - i, hm6, by omega, by omega, rfl, fun m hm h3 h4 => ?_⟩
        by_cases e : m = 5 - i
        · rw [e]; exact ⟨Int32.le_refl _, fun _ => Nat.le_refl _⟩
        · have := h2 m hm (by omega); omega
      · rw [if_neg (nI_pos (by omega)), nI_clamp (by omega)]
        by_cases c : l b < l (5 - i)
        · rw [if_pos c]
          refine Or.inr ⟨b, b1, by omega, b3, rfl, fun m hm h3 h4 => ?_⟩
          by_cases e : m = 5 - i
          · rw [e]
            rw [Int32.lt_iff_toInt_lt] at c
            rw [Int32.le_iff_toInt_le, Int32.le_iff_toInt_le]
            exact ⟨by omega, fun h9 => by omega⟩
          · exact b5 m hm (by omega) h4
        · rw [if_neg c]
          have c9 : l (5 - i) ≤ l b := by
            rw [Int32.lt_iff_toInt_lt] at c
            rw [Int32.le_iff_toInt_le]
            omega
          refine Or.inr ⟨5 - i, hm6, by omega, by omega, rfl, fun m hm h3 h4 => ?_⟩
          by_cases e : m = 5 - i
          · rw [e]; exact ⟨Int32.le_refl _, fun _ => Nat.le_refl _⟩
          · exact ⟨Int32.le_trans c9 (b5 m hm (by omega) h4).1, fun _ => by omega⟩
theorem lb_ok {q l : Nat → Int32} {qn : Nat → Nat} (hq : ∀ m, m < 6 → q m = nI (qn m) ∧ qn m ≤ 30) (hs : 0 < sumN 6 qn) : ∃ b, b < 6 ∧ 0 < qn b ∧ lbAll q l = nI b := by
  rcases lb_step (l := l) hq 6 (Nat.le_refl _) with ⟨-, h⟩ | ⟨b, b1, -, b3, b4, -⟩
  · obtain ⟨m, m1, m2⟩ := sumN_pos hs
    have := h m m1 (by omega); omega
  · exact ⟨b, b1, b3, b4⟩
theorem sumN_dec {n m : Nat} {f g : Nat → Nat} (hm : m < n) (h0 : 0 < f m) (h1 : g m = f m - 1) (h2 : ∀ o, o < n → o ≠ m → g o = f o) : sumN n g + 1 = sumN n f :=
  (sumN_inc (f := g) (g := f) hm (by omega) fun o ho hne => (h2 o ho hne).symm).symm
/-- the premises of a sharing out -/
def LsP (n M : Nat) (p o : Nat → Int32) (pn : Nat → Nat) : Prop := n ≤ 20 ∧ M < 64 ∧ (∀ d, d < n → 1 ≤ pn d ∧ pn d ≤ 9 ∧ p d = nI (pn d)) ∧ ∀ d, d < n → o d = -1 ∨ ∃ k, k < 6 ∧ o d = nI k
def CapQ (n M : Nat) (o : Nat → Int32) (g q : Nat → Int32) : Prop := ∃ qn : Nat → Nat, (∀ m, m < 6 → q m = nI (qn m) ∧ qn m ≤ qN n M o m) ∧ undN g n ≤ sumN 6 qn
def KI (n M : Nat) (o : Nat → Int32) (pn : Nat → Nat) (t d : Nat) (z : T3) : Prop :=
  CapQ n M o z.1 z.2.1 ∧ ∀ x, x < n → (z.1 x = -1 ∨ ∃ k, k < 6 ∧ bt M k = 1 ∧ o x = nI k ∧ z.1 x = nI k) ∧ (prB pn t d x = false → z.1 x = -1) ∧ (z.1 x = -1 → prB pn t d x = true → o x = -1 ∨ ∃ k, k < 6 ∧ o x = nI k ∧ z.2.1 k = 0)
theorem pr_off {pn : Nat → Nat} {t d x : Nat} (h : ¬ (x = d ∧ pn d + t = 9)) : prB pn t (d + 1) x = prB pn t d x := by
  refine Bool.eq_iff_iff.mpr ?_
  rw [prB_t, prB_t]
  by_cases e : x = d
  · subst e; omega
  · omega
theorem pr_new {pn : Nat → Nat} {t d : Nat} (h : pn d + t = 9) : prB pn t d d = false ∧ prB pn t (d + 1) d = true :=
  ⟨Bool.eq_false_iff.mpr fun h9 => by have := prB_t.mp h9; omega, prB_t.mpr (by omega)⟩
theorem ki_step {n M t d : Nat} {p o : Nat → Int32} {pn : Nat → Nat} {z : T3} (hP : LsP n M p o pn) (ht : t ≤ 9) (hd : d < n) (h : KI n M o pn t d z) : KI n M o pn t (d + 1) (kpStep p o (nI (9 - t)) d z) := by
  obtain ⟨g, q, l⟩ := z
  obtain ⟨hn, hM, hp, ho⟩ := hP
  obtain ⟨hC, hX⟩ := h
  dsimp only at hC hX
  obtain ⟨p1, p2, p3⟩ := hp d hd
  unfold kpStep
  by_cases c : pn d + t = 9
  · have c2 : p d = nI (9 - t) := by rw [p3]; congr 1; omega
    rw [if_pos c2]
    obtain ⟨n1, n2⟩ := pr_new c
    rcases ho d hd with h0 | ⟨k, hk, h0⟩
    · rw [h0, if_pos (by decide)]
      refine ⟨hC, fun x hx => ?_⟩
      obtain ⟨x1, x2, x3⟩ := hX x hx
      by_cases e : x = d
      · subst e
        exact ⟨x1, fun h9 => (by rw [n2] at h9; cases h9), fun _ _ => Or.inl h0⟩
      · rw [pr_off fun h9 => e h9.1]; exact ⟨x1, x2, x3⟩
    · rw [h0, if_neg (nI_pos (by omega)), nI_clamp (by omega)]
      show KI n M o pn t (d + 1) (if q k = 0 then (g, q, l) else (upd g d (nI k), upd q k (q k - 1), upd l k (l k + nI (9 - t))))
      by_cases c3 : q k = 0
      · rw [if_pos c3]
        refine ⟨hC, fun x hx => ?_⟩
        obtain ⟨x1, x2, x3⟩ := hX x hx
        by_cases e : x = d
        · subst e
          exact ⟨x1, fun h9 => (by rw [n2] at h9; cases h9), fun _ _ => Or.inr ⟨k, hk, h0, c3⟩⟩
        · rw [pr_off fun h9 => e h9.1]; exact ⟨x1, x2, x3⟩
      · rw [if_neg c3]
        have hgd : g d = -1 := (hX d hd).2.1 n1
        obtain ⟨qn, hq, hs⟩ := hC
        obtain ⟨q1, q2⟩ := hq k hk
        have hq21 := qN_le (n := n) (M := M) (m := k) (o := o) hn
        have q0 : 0 < qn k := by
          rcases Nat.eq_zero_or_pos (qn k) with h9 | h9
          · rw [q1, h9] at c3; exact absurd nI_01.1 c3
          · exact h9
        have hbt : bt M k = 1 := by
          have := bt_le M k
          rcases Nat.eq_zero_or_pos (bt M k) with h9 | h9
          · rw [qN_0 h9] at q2; omega
          · omega
        refine ⟨⟨fun o => if o = k then qn o - 1 else qn o, fun m hm => ?_, ?_⟩, fun x hx => ?_⟩
        · obtain ⟨m1, m2⟩ := hq m hm
          by_cases e : m = k
          · subst e
            show upd q m (q m - 1) m = nI (if m = m then qn m - 1 else qn m) ∧ (if m = m then qn m - 1 else qn m) ≤ _
            rw [pk_us, if_pos rfl, q1]
            exact ⟨pk_sub (a := qn m) (b := 1) (by omega), by omega⟩
          · show upd q k (q k - 1) m = nI (if m = k then qn m - 1 else qn m) ∧ (if m = k then qn m - 1 else qn m) ≤ _
            rw [pk_un e, if_neg e]; exact ⟨m1, m2⟩
        · have h1 := undN_put (g := g) (d := d) (n := n) (v := nI k) hd (by rw [hgd]; decide) (nI_pos' (by omega))
          have h2 := sumN_dec (n := 6) (m := k) (f := qn) (g := fun o => if o = k then qn o - 1 else qn o) hk q0 (if_pos rfl) (fun o _ hne => if_neg hne)
          show undN (upd g d (nI k)) n ≤ _
          omega
        · obtain ⟨x1, x2, x3⟩ := hX x hx
          by_cases e : x = d
          · subst e
            show (upd g x (nI k) x = -1 ∨ ∃ k_1, k_1 < 6 ∧ bt M k_1 = 1 ∧ o x = nI k_1 ∧ upd g x (nI k) x = nI k_1) ∧ (_ → upd g x (nI k) x = -1) ∧ (upd g x (nI k) x = -1 → _)
            rw [pk_us]
            exact ⟨Or.inr ⟨k, hk, hbt, h0, rfl⟩, fun h9 => (by rw [n2] at h9; cases h9), fun h9 => absurd h9 (nI_n1' (by omega))⟩
          · show (upd g d (nI k) x = -1 ∨ ∃ k_1, k_1 < 6 ∧ bt M k_1 = 1 ∧ o x = nI k_1 ∧ upd g d (nI k) x = nI k_1) ∧ (_ → upd g d (nI k) x = -1) ∧ (upd g d (nI k) x = -1 → _ → o x = -1 ∨ ∃ k_1, k_1 < 6 ∧ o x = nI k_1 ∧ upd q k (q k - 1) k_1 = 0)
            rw [pk_un e, pr_off fun h9 => e h9.1]
            refine ⟨x1, x2, fun h9 h8 => ?_⟩
            rcases x3 h9 h8 with h7 | ⟨j, j1, j2, j3⟩
            · exact Or.inl h7
            · refine Or.inr ⟨j, j1, j2, ?_⟩
              rw [pk_un fun h9 => by subst h9; exact c3 j3]
              exact j3
  · have c2 : ¬ p d = nI (9 - t) := by rw [p3, nI_eq (by omega) (by omega)]; omega
    rw [if_neg c2]
    refine ⟨hC, fun x hx => ?_⟩
    rw [pr_off fun h9 => c h9.2]
    exact hX x hx
theorem undN_all {g : Nat → Int32} : ∀ n, undN g n ≤ n := undN_le g
theorem ki_ok {n M : Nat} {p o gl : Nat → Int32} {pn : Nat → Nat} (hP : LsP n M p o pn) (hc : 0 < menN M) : ∀ t, t ≤ 9 → ∀ d, d ≤ n → KI n M o pn t d (itr d (kpStep p o (nI (9 - t))) (itr t (kpOut n p o) (fillM n gl, qT n M o (n % menN M), fun _ => 0))) := by
  intro t
  induction t with
  | zero =>
    intro ht d
    induction d with
    | zero =>
      intro _
      show KI n M o pn 0 0 (fillM n gl, qT n M o (n % menN M), fun _ => 0)
      have hf : ∀ x, x < n → fillM n gl x = -1 := fun x hx => by rw [fillM_at, if_pos hx]
      refine ⟨⟨qN n M o, fun m _ => ⟨rfl, Nat.le_refl _⟩, Nat.le_trans (undN_le _ _) (qN_sum hc)⟩, fun x hx => ⟨Or.inl (hf x hx), fun _ => hf x hx, fun _ h9 => ?_⟩⟩
      have h8 := prB_t.mp h9
      have := hP.2.2.1 x hx
      omega
    | succ d ih =>
      intro hd
      exact ki_step hP ht (by omega) (ih (by omega))
  | succ t ih =>
    intro ht d
    induction d with
    | zero =>
      intro _
      obtain ⟨h1, h2⟩ := ih (by omega) n (Nat.le_refl _)
      refine ⟨h1, fun x hx => ?_⟩
      have e : prB pn (t + 1) 0 x = prB pn t n x := Bool.eq_iff_iff.mpr (by rw [prB_t, prB_t]; omega)
      rw [e]
      exact h2 x hx
    | succ d ih2 =>
      intro hd
      exact ki_step hP ht (by omega) (ih2 (by omega))
/-- giving out -/
def GO (n M : Nat) (o : Nat → Int32) (pn : Nat → Nat) (t d : Nat) (z : T4) : Prop :=
  CapQ n M o z.1 z.2.1 ∧ (∀ x, x < n → (z.1 x = -1 ∨ ∃ k, k < 6 ∧ bt M k = 1 ∧ z.1 x = nI k) ∧ (prB pn t d x = true → ¬ z.1 x = -1) ∧ (z.1 x = -1 → o x = -1 ∨ ∃ k, k < 6 ∧ o x = nI k ∧ z.2.1 k = 0)) ∧
    z.2.2.2 = cnt n (fun x => decide (¬ z.1 x = -1) && decide (¬ z.1 x = o x))
theorem go_best {n M t d x : Nat} {p o : Nat → Int32} {pn : Nat → Nat} {z : T4} (hP : LsP n M p o pn) (h : GO n M o pn t d z) (hx : x < n) (hz : z.1 x < 0) : ∃ b, b < 6 ∧ bt M b = 1 ∧ lbAll z.2.1 z.2.2.1 = nI b ∧ ¬ z.2.1 b = 0 ∧ z.1 x = -1 := by
  obtain ⟨⟨qn, hq, hs⟩, hX, -⟩ := h
  have hx1 : z.1 x = -1 := by
    rcases (hX x hx).1 with h9 | ⟨k, hk, -, h9⟩
    · exact h9
    · rw [h9] at hz; exact absurd hz (nI_pos (by omega))
  have hu : 0 < undN z.1 n := by rw [← undN_put (v := 0) hx (by rw [hx1]; decide) (by decide)]; exact Nat.succ_pos _
  have h21 := fun m => qN_le (n := n) (M := M) (m := m) (o := o) hP.1
  obtain ⟨b, b1, b2, b3⟩ := lb_ok (l := z.2.2.1) (fun m hm => ⟨(hq m hm).1, by have := (hq m hm).2; have := h21 m; omega⟩) (Nat.lt_of_lt_of_le hu hs)
  have hbt : bt M b = 1 := by
    have := bt_le M b
    rcases Nat.eq_zero_or_pos (bt M b) with h9 | h9
    · have := (hq b b1).2; rw [qN_0 h9] at this; omega
    · omega
  refine ⟨b, b1, hbt, b3, ?_, hx1⟩
  rw [(hq b b1).1]
  have := (hq b b1).2; have := h21 b
  exact nI_ne0 b2 (by omega)
theorem go_step {n M t d : Nat} {p o : Nat → Int32} {pn : Nat → Nat} {z : T4} (hP : LsP n M p o pn) (ht : t ≤ 9) (hd : d < n) (h : GO n M o pn t d z) : GO n M o pn t (d + 1) (gvStep p (nI (9 - t)) d z) := by
  have hbest := fun hz => go_best (x := d) hP h hd hz
  obtain ⟨g, q, l, ch⟩ := z
  obtain ⟨hn, hM, hp, ho⟩ := hP
  obtain ⟨hC, hX, hN⟩ := h
  dsimp only at hC hX hN hbest
  obtain ⟨p1, p2, p3⟩ := hp d hd
  unfold gvStep
  by_cases c : pn d + t = 9
  · have c2 : p d = nI (9 - t) := by rw [p3]; congr 1; omega
    rw [if_pos c2]
    obtain ⟨n1, n2⟩ := pr_new c
    show GO n M o pn t (d + 1) (if g d < 0 then gvOne d (nI (9 - t)) (lbAll q l) (g, q, l, ch) else (g, q, l, ch))
    by_cases c3 : g d < 0
    · rw [if_pos c3]
      obtain ⟨b, b1, b2, b3, b4, b5⟩ := hbest c3
      rw [b3]
      unfold gvOne
      rw [nI_clamp (by omega)]
      obtain ⟨qn, hq, hs⟩ := hC
      have hq21 := qN_le (n := n) (M := M) (m := b) (o := o) hn
      obtain ⟨q1, q2⟩ := hq b b1
      have q0 : 0 < qn b := by
        rcases Nat.eq_zero_or_pos (qn b) with h9 | h9
        · rw [q1, h9] at b4; exact absurd nI_01.1 b4
        · exact h9
      have hob : ¬ nI b = o d := fun h9 => by
        rcases (hX d hd).2.2 b5 with h8 | ⟨k, k1, k2, k3⟩
        · rw [h8] at h9; exact nI_n1' (by omega) h9
        · rw [k2, nI_eq (by omega) (by omega)] at h9; subst h9; exact b4 k3
      refine ⟨⟨fun o => if o = b then qn o - 1 else qn o, fun m hm => ?_, ?_⟩, fun x hx => ?_, ?_⟩
      · obtain ⟨m1, m2⟩ := hq m hm
        by_cases e : m = b
        · subst e
          show upd q m (q m - 1) m = nI (if m = m then qn m - 1 else qn m) ∧ (if m = m then qn m - 1 else qn m) ≤ _
          rw [pk_us, if_pos rfl, q1]
          exact ⟨pk_sub (a := qn m) (b := 1) (by omega), by omega⟩
        · show upd q b (q b - 1) m = nI (if m = b then qn m - 1 else qn m) ∧ (if m = b then qn m - 1 else qn m) ≤ _
          rw [pk_un e, if_neg e]; exact ⟨m1, m2⟩
      · have h1 := undN_put (g := g) (d := d) (n := n) (v := nI b) hd (by rw [b5]; decide) (nI_pos' (by omega))
        have h2 := sumN_dec (n := 6) (m := b) (f := qn) (g := fun o => if o = b then qn o - 1 else qn o) b1 q0 (if_pos rfl) (fun o _ hne => if_neg hne)
        show undN (upd g d (nI b)) n ≤ _
        omega
      · obtain ⟨x1, x2, x3⟩ := hX x hx
        by_cases e : x = d
        · subst e
          show (upd g x (nI b) x = -1 ∨ ∃ k, k < 6 ∧ bt M k = 1 ∧ upd g x (nI b) x = nI k) ∧ (_ → ¬ upd g x (nI b) x = -1) ∧ (upd g x (nI b) x = -1 → _)
          rw [pk_us]
          exact ⟨Or.inr ⟨b, b1, b2, rfl⟩, fun _ => nI_n1' (by omega), fun h9 => absurd h9 (nI_n1' (by omega))⟩
        · show (upd g d (nI b) x = -1 ∨ ∃ k, k < 6 ∧ bt M k = 1 ∧ upd g d (nI b) x = nI k) ∧ (_ → ¬ upd g d (nI b) x = -1) ∧ (upd g d (nI b) x = -1 → o x = -1 ∨ ∃ k, k < 6 ∧ o x = nI k ∧ upd q b (q b - 1) k = 0)
          rw [pk_un e, pr_off fun h9 => e h9.1]
          refine ⟨x1, x2, fun h9 => ?_⟩
          rcases x3 h9 with h7 | ⟨j, j1, j2, j3⟩
          · exact Or.inl h7
          · refine Or.inr ⟨j, j1, j2, ?_⟩
            rw [pk_un fun h9 => by subst h9; exact b4 j3]
            exact j3
      · show ch + 1 = cnt n (fun x => decide (¬ upd g d (nI b) x = -1) && decide (¬ upd g d (nI b) x = o x))
        rw [hN]
        refine (cnt_set hd ?_ ?_ fun y hy hyd => ?_).symm
        · show (decide (¬ g d = -1) && decide (¬ g d = o d)) = false
          rw [decide_eq_false (fun h9 => h9 b5), Bool.false_and]
        · show (decide (¬ upd g d (nI b) d = -1) && decide (¬ upd g d (nI b) d = o d)) = true
          rw [pk_us, decide_eq_true (nI_n1' (by omega)), decide_eq_true hob]; rfl
        · show (decide (¬ upd g d (nI b) y = -1) && decide (¬ upd g d (nI b) y = o y)) = (decide (¬ g y = -1) && decide (¬ g y = o y))
          rw [pk_un hyd]
    · rw [if_neg c3]
      refine ⟨hC, fun x hx => ?_, hN⟩
      obtain ⟨x1, x2, x3⟩ := hX x hx
      by_cases e : x = d
      · subst e
        exact ⟨x1, fun _ h9 => by
          have h8 : g x = -1 := h9
          rw [h8] at c3; exact c3 (by decide), x3⟩
      · rw [pr_off fun h9 => e h9.1]; exact ⟨x1, x2, x3⟩
  · have c2 : ¬ p d = nI (9 - t) := by rw [p3, nI_eq (by omega) (by omega)]; omega
    rw [if_neg c2]
    refine ⟨hC, fun x hx => ?_, hN⟩
    rw [pr_off fun h9 => c h9.2]
    exact hX x hx
theorem go_0 {n M : Nat} {p o gl : Nat → Int32} {pn : Nat → Nat} (hP : LsP n M p o pn) (hc : 0 < menN M) : GO n M o pn 0 0 (ls0 n M p o gl) := by
  have h := ki_ok (gl := gl) hP hc 9 (Nat.le_refl _) 0 (Nat.zero_le _)
  have e : itr 0 (kpStep p o (nI (9 - 9))) (itr 9 (kpOut n p o) (fillM n gl, qT n M o (n % menN M), fun _ => 0)) = lsK n M p o gl := rfl
  rw [e] at h
  unfold ls0
  generalize lsK n M p o gl = w at h
  obtain ⟨h1, h2⟩ := h
  have hv : ∀ x, x < n → prB pn 9 0 x = true := fun x hx => prB_t.mpr (by have := hP.2.2.1 x hx; omega)
  refine ⟨h1, fun x hx => ?_, ?_⟩
  · obtain ⟨x1, x2, x3⟩ := h2 x hx
    refine ⟨?_, fun h9 => ?_, fun h9 => x3 h9 (hv x hx)⟩
    · rcases x1 with h9 | ⟨k, a1, a2, -, a4⟩
      · exact Or.inl h9
      · exact Or.inr ⟨k, a1, a2, a4⟩
    · have h8 := prB_t.mp h9
      have := hP.2.2.1 x hx
      omega
  · refine (cnt_zero fun x hx => ?_).symm
    rcases (h2 x hx).1 with h9 | ⟨k, -, -, a3, a4⟩
    · rw [decide_eq_false (fun h8 => h8 h9), Bool.false_and]
    · rw [decide_eq_false (p := ¬ w.1 x = o x) (fun h8 => h8 (a4.trans a3.symm)), Bool.and_false]
theorem go_ok {n M : Nat} {p o gl : Nat → Int32} {pn : Nat → Nat} (hP : LsP n M p o pn) (hc : 0 < menN M) : ∀ t, t ≤ 9 → ∀ d, d ≤ n → GO n M o pn t d (itr d (gvStep p (nI (9 - t))) (itr t (gvOut n p) (ls0 n M p o gl))) := by
  intro t
  induction t with
  | zero =>
    intro ht d
    induction d with
    | zero => intro _; exact go_0 hP hc
    | succ d ih =>
      intro hd
      exact go_step hP ht (by omega) (ih (by omega))
  | succ t ih =>
    intro ht d
    induction d with
    | zero =>
      intro _
      obtain ⟨h1, h2, h3⟩ := ih (by omega) n (Nat.le_refl _)
      refine ⟨h1, fun x hx => ?_, h3⟩
      have e : prB pn (t + 1) 0 x = prB pn t n x := Bool.eq_iff_iff.mpr (by rw [prB_t, prB_t]; omega)
      rw [e]
      exact h2 x hx
    | succ d ih2 =>
      intro hd
      exact go_step hP ht (by omega) (ih2 (by omega))
theorem ls_fin {n M : Nat} {p o gl : Nat → Int32} {pn : Nat → Nat} (hP : LsP n M p o pn) (hc : 0 < menN M) : (∀ d, d < n → ∃ k, k < 6 ∧ bt M k = 1 ∧ (lsZ n M p o gl).1 d = nI k) ∧ (lsZ n M p o gl).2.2.2 = ccAll (lsZ n M p o gl).1 o n := by
  have h := go_ok (gl := gl) hP hc 9 (Nat.le_refl _) 0 (Nat.zero_le _)
  have e : itr 0 (gvStep p (nI (9 - 9))) (itr 9 (gvOut n p) (ls0 n M p o gl)) = lsZ n M p o gl := rfl
  rw [e] at h
  generalize lsZ n M p o gl = w at h
  obtain ⟨-, h2, h3⟩ := h
  have hg : ∀ d, d < n → ∃ k, k < 6 ∧ bt M k = 1 ∧ w.1 d = nI k := fun d hd => by
    obtain ⟨x1, x2, -⟩ := h2 d hd
    rcases x1 with h9 | h9
    · exact absurd h9 (x2 (prB_t.mpr (by have := hP.2.2.1 d hd; omega)))
    · exact h9
  refine ⟨hg, h3.trans (itr_congr n 0 fun d hd x => ?_)⟩
  obtain ⟨k, k1, -, k3⟩ := hg d hd
  show (if (decide (¬ w.1 d = -1) && decide (¬ w.1 d = o d)) = true then x + 1 else x) = if w.1 d = o d then x else x + 1
  rw [decide_eq_true (p := ¬ w.1 d = -1) (by rw [k3]; exact nI_n1' (by omega)), Bool.true_and]
  by_cases c : w.1 d = o d
  · rw [if_pos c, if_neg (by rw [decide_eq_true_eq]; exact fun h9 => h9 c)]
  · rw [if_neg c, if_pos (decide_eq_true c)]
theorem ch_le {n : Nat} {f o : Nat → Int32} : ccAll f o n ≤ n := by
  induction n with
  | zero => exact Nat.le_refl _
  | succ n ih => show (if f n = o n then ccAll f o n else ccAll f o n + 1) ≤ n + 1; split <;> omega

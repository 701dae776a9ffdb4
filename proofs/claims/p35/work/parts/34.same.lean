/-! ===== sharing out: the class and the law alike ===== -/
def kst (P O Q : Nat → Int32) (y : Int32) (z : T3) : T3 := if rowAt O 20 y = -1 then z else if rowAt Q 6 (rowAt O 20 y) ≤ rowAt z.2.1 6 (rowAt O 20 y) then z else gvT z y (rowAt O 20 y) (rowAt P 20 y)
def gst (P Q : Nat → Int32) (y : Int32) (z : T3) : T3 := if rowAt z.1 20 y = -1 then gvT z y (llAll Q z.2.1 z.2.2) (rowAt P 20 y) else z
def nst (g : Int32 → T3 → T3) (P : Nat → Int32) (v : Int32) (d : Nat) (z : T3) : T3 := if P d = v then g (nI d) z else z
def nstOut (n : Nat) (g : Int32 → T3 → T3) (P : Nat → Int32) (t : Nat) (z : T3) : T3 := itr n (nst g P (nI (9 - t))) z
/-- going through the list that was made by two loops is going through the two loops -/
theorem fuse_in {P f0 : Nat → Int32} {pn : Nat → Nat} {n t : Nat} {g : Int32 → T3 → T3} {z0 : T3} (hn : n ≤ 20) (hp : ∀ d, d < n → 1 ≤ pn d ∧ pn d ≤ 9 ∧ P d = nI (pn d)) (ht : t ≤ 9)
    (h0 : itr (itr t (soOut P n) (f0, 0)).2 (fun i z => g ((itr t (soOut P n) (f0, 0)).1 i) z) z0 = itr t (nstOut n g P) z0) :
    ∀ d, d ≤ n → itr (itr d (soStep P (nI (9 - t))) (itr t (soOut P n) (f0, 0))).2 (fun i z => g ((itr d (soStep P (nI (9 - t))) (itr t (soOut P n) (f0, 0))).1 i) z) z0 = itr d (nst g P (nI (9 - t))) (itr t (nstOut n g P) z0) := by
  intro d
  induction d with
  | zero => intro _; exact h0
  | succ d ih =>
    intro hd
    have ih := ih (by omega)
    have hs := so_in hn hp ht (so_all (f := f0) hn hp t ht) d (by omega)
    show itr (soStep P (nI (9 - t)) d (itr d (soStep P (nI (9 - t))) (itr t (soOut P n) (f0, 0)))).2 (fun i z => g ((soStep P (nI (9 - t)) d (itr d (soStep P (nI (9 - t))) (itr t (soOut P n) (f0, 0)))).1 i) z) z0 = nst g P (nI (9 - t)) d (itr d (nst g P (nI (9 - t))) (itr t (nstOut n g P) z0))
    rw [← ih]
    generalize itr d (soStep P (nI (9 - t))) (itr t (soOut P n) (f0, 0)) = w at hs
    obtain ⟨f, k⟩ := w
    obtain ⟨s1, -, -⟩ := hs
    dsimp only at s1
    unfold soStep nst
    by_cases c : P d = nI (9 - t)
    · rw [if_pos c, if_pos c]
      have hk : k < n := by
        rw [s1]
        have hx : prB pn t d d = false := by
          refine Bool.eq_false_iff.mpr fun h9 => ?_
          have h8 := prB_t.mp h9
          obtain ⟨p1, p2, p3⟩ := hp d (by omega)
          rw [p3, nI_eq (by omega) (by omega)] at c
          omega
        have := cnt_strict (n := n) (m := d) (P := prB pn t d) (Q := fun _ => true) (fun _ _ _ => rfl) (by omega) rfl (by rw [hx]; decide)
        rw [cnt_full (fun _ _ => rfl)] at this
        exact this
      show itr (k + 1) (fun i z => g (rowPut f 20 (nI k) (nI d) i) z) z0 = g (nI d) (itr k (fun i z => g (f i) z) z0)
      rw [rowPut_in (by omega) (by omega)]
      show g (upd f k (nI d) k) (itr k (fun i z => g (upd f k (nI d) i) z) z0) = _
      rw [pk_us, itr_congr (f := fun i z => g (upd f k (nI d) i) z) (g := fun i z => g (f i) z) k z0 fun i hi x => by
        show g (upd f k (nI d) i) x = g (f i) x
        rw [pk_un (by omega)]]
    · rw [if_neg c, if_neg c]
theorem fuse_all {P f0 : Nat → Int32} {pn : Nat → Nat} {n : Nat} {g : Int32 → T3 → T3} {z0 : T3} (hn : n ≤ 20) (hp : ∀ d, d < n → 1 ≤ pn d ∧ pn d ≤ 9 ∧ P d = nI (pn d)) :
    ∀ t, t ≤ 9 → itr (itr t (soOut P n) (f0, 0)).2 (fun i z => g ((itr t (soOut P n) (f0, 0)).1 i) z) z0 = itr t (nstOut n g P) z0 := by
  intro t
  induction t with
  | zero => intro _; rfl
  | succ t ih =>
    intro ht
    have h := fuse_in (g := g) (z0 := z0) hn hp (by omega) (ih (by omega)) n (Nat.le_refl _)
    exact h
theorem fuse_9 {P f0 : Nat → Int32} {pn : Nat → Nat} {n : Nat} {g : Int32 → T3 → T3} {z0 : T3} (hn : n ≤ 20) (hp : ∀ d, d < n → 1 ≤ pn d ∧ pn d ≤ 9 ∧ P d = nI (pn d)) :
    itr n (fun i z => g ((soAll P n f0).1 i) z) z0 = itr 9 (nstOut n g P) z0 := by
  have h := fuse_all (f0 := f0) (g := g) (z0 := z0) hn hp 9 (Nat.le_refl _)
  obtain ⟨h1, -, -⟩ := so_all (f := f0) hn hp 9 (Nat.le_refl _)
  have ha : ∀ x, x < n → prB pn 9 0 x = true := fun x hx => prB_t.mpr (by have := hp x hx; omega)
  rw [cnt_full ha] at h1
  rw [h1] at h
  exact h
def Sim (n : Nat) (Q : Nat → Int32) (zc zl : T3) : Prop := (∀ x, x < n → zl.1 x = zc.1 x) ∧ ∀ m, m < 6 → (∃ a b, Q m = nI b ∧ zc.2.1 m = nI a ∧ a ≤ b ∧ b ≤ 30 ∧ zl.2.1 m = nI (b - a)) ∧ zl.2.2 m = zc.2.2 m
theorem Sim.give {n x k : Nat} {Q : Nat → Int32} {v : Int32} {zc zl : T3} (h : Sim n Q zc zl) (hk : k < 6) (hlt : ¬ zl.2.1 k = 0) :
    Sim n Q (upd zc.1 x (nI k), upd zc.2.1 k (zc.2.1 k + 1), upd zc.2.2 k (zc.2.2 k + v)) (upd zl.1 x (nI k), upd zl.2.1 k (zl.2.1 k - 1), upd zl.2.2 k (zl.2.2 k + v)) := by
  obtain ⟨h1, h2⟩ := h
  refine ⟨fun y hy => ?_, fun m hm => ?_⟩
  · show upd zl.1 x (nI k) y = upd zc.1 x (nI k) y
    by_cases e : y = x
    · subst e; rw [pk_us, pk_us]
    · rw [pk_un e, pk_un e]; exact h1 y hy
  · obtain ⟨⟨a, b, q1, q2, q3, q4, q5⟩, q6⟩ := h2 m hm
    show (∃ a b, Q m = nI b ∧ upd zc.2.1 k (zc.2.1 k + 1) m = nI a ∧ a ≤ b ∧ b ≤ 30 ∧ upd zl.2.1 k (zl.2.1 k - 1) m = nI (b - a)) ∧ upd zl.2.2 k (zl.2.2 k + v) m = upd zc.2.2 k (zc.2.2 k + v) m
    by_cases e : m = k
    · subst e
      rw [pk_us, pk_us, pk_us, pk_us, q6]
      have hab : a < b := by
        rcases Nat.lt_or_ge a b with h9 | h9
        · exact h9
        · rw [q5, show b - a = 0 by omega] at hlt; exact absurd nI_01.1 hlt
      refine ⟨⟨a + 1, b, q1, by rw [q2]; exact nI_add a 1, by omega, q4, ?_⟩, rfl⟩
      rw [q5]
      exact (pk_sub (a := b - a) (b := 1) (by omega)).trans (by congr 1)
    · rw [pk_un e, pk_un e, pk_un e, pk_un e]
      exact ⟨⟨a, b, q1, q2, q3, q4, q5⟩, q6⟩
theorem sim_kp {n d : Nat} {P O Q p o : Nat → Int32} {v : Int32} {zc zl : T3} (hn : n ≤ 20) (hd : d < n) (hP : p d = P d) (hO : o d = O d) (ho : O d = -1 ∨ ∃ k, k < 6 ∧ O d = nI k) (h : Sim n Q zc zl) : Sim n Q (nst (kst P O Q) P v d zc) (kpStep p o v d zl) := by
  unfold nst kpStep
  rw [hP, hO]
  by_cases c : P d = v
  · rw [if_pos c, if_pos c]
    unfold kst
    rw [rowAt_in (f := O) (n := 20) (k := d) (by omega) (by omega), rowAt_in (f := P) (n := 20) (k := d) (by omega) (by omega)]
    rcases ho with h0 | ⟨k, hk, h0⟩
    · rw [h0, if_pos rfl, if_pos (by decide)]; exact h
    · rw [h0, if_neg (nI_n1' (by omega)), if_neg (nI_pos (by omega)), rowAt_in hk (by omega), rowAt_in hk (by omega), nI_clamp (by omega)]
      obtain ⟨⟨a, b, q1, q2, q3, q4, q5⟩, q6⟩ := h.2 k hk
      by_cases c2 : b ≤ a
      · have e0 : zl.2.1 k = 0 := by rw [q5, show b - a = 0 by omega]; exact nI_01.1
        rw [if_pos (by rw [q1, q2]; exact nI_le c2 (by omega)), if_pos e0]; exact h
      · have e0 : ¬ zl.2.1 k = 0 := by rw [q5]; exact nI_ne0 (by omega) (by omega)
        rw [if_neg (by rw [q1, q2]; exact nI_ge (by omega) (by omega)), if_neg e0]
        unfold gvT
        rw [rowPut_in (by omega) (by omega), rowInc_in hk (by omega), rowInc_in hk (by omega), c]
        exact h.give hk e0
  · rw [if_neg c, if_neg c]; exact h
/-- the least loaded, as the class finds him -/
theorem ll_step {Q s l : Nat → Int32} {r : Nat → Nat} (hr : ∀ m, m < 6 → (Q m ≤ s m ↔ r m = 0)) : ∀ i, i ≤ 6 → (itr i (llStep Q s l) (-1) = -1 ∧ ∀ m, m < i → r m = 0) ∨
    (∃ b, b < i ∧ 0 < r b ∧ itr i (llStep Q s l) (-1) = nI b ∧ ∀ m, m < i → 0 < r m → l b ≤ l m ∧ (l m ≤ l b → b ≤ m)) := by
  intro i
  induction i with
  | zero => intro _; exact Or.inl ⟨rfl, fun m hm => absurd hm (Nat.not_lt_zero _)⟩
  | succ i ih =>
    intro hi
    have ih := ih (by omega)
    show (llStep Q s l i (itr i (llStep Q s l) (-1)) = -1 ∧ _) ∨ ∃ b, b < i + 1 ∧ 0 < r b ∧ llStep Q s l i (itr i (llStep Q s l) (-1)) = nI b ∧ _
    generalize itr i (llStep Q s l) (-1) = x at ih
    unfold llStep
    by_cases h0 : r i = 0
    · rw [if_pos ((hr i (by omega)).mpr h0)]
      rcases ih with ⟨h1, h2⟩ | ⟨b, b1, b2, b3, b4⟩
      · refine Or.inl ⟨h1, fun m hm => ?_⟩
        by_cases e : m = i
        · rw [e]; exact h0
        · exact h2 m (by omega)
      · refine Or.inr ⟨b, by omega, b2, b3, fun m hm h3 => ?_⟩
        by_cases e : m = i
        · rw [e] at h3; omega
        · exact b4 m (by omega) h3
    · rw [if_neg fun h9 => h0 ((hr i (by omega)).mp h9)]
      rcases ih with ⟨rfl, h2⟩ | ⟨b, b1, b2, rfl, b4⟩
      · rw [if_pos rfl]
        refine Or.inr ⟨i, by omega, by omega, rfl, fun m hm h3 => ?_⟩
        by_cases e : m = i
        · rw [e]; exact ⟨Int32.le_refl _, fun _ => Nat.le_refl _⟩
        · have := h2 m (by omega); omega
      · rw [if_neg (nI_n1' (by omega)), rowAt_in (by omega) (by omega)]
        by_cases c : l b ≤ l i
        · rw [if_pos c]
          refine Or.inr ⟨b, by omega, b2, rfl, fun m hm h3 => ?_⟩
          by_cases e : m = i
          · rw [e]; exact ⟨c, fun _ => by omega⟩
          · exact b4 m (by omega) h3
        · rw [if_neg c]
          refine Or.inr ⟨i, by omega, by omega, rfl, fun m hm h3 => ?_⟩
          by_cases e : m = i
          · rw [e]; exact ⟨Int32.le_refl _, fun _ => Nat.le_refl _⟩
          · have h5 := b4 m (by omega) h3
            rw [Int32.le_iff_toInt_le] at c h5
            rw [Int32.le_iff_toInt_le, Int32.le_iff_toInt_le]
            exact ⟨by omega, fun h9 => by omega⟩
theorem ll_lb {n : Nat} {Q : Nat → Int32} {zc zl : T3} (h : Sim n Q zc zl) {b : Nat} (hb : b < 6) (hl : lbAll zl.2.1 zl.2.2 = nI b) : llAll Q zc.2.1 zc.2.2 = nI b := by
  obtain ⟨-, h2⟩ := h
  have hr : ∃ r : Nat → Nat, ∀ m, m < 6 → (Q m ≤ zc.2.1 m ↔ r m = 0) ∧ zl.2.1 m = nI (r m) ∧ r m ≤ 30 := by
    refine ⟨fun m => (zl.2.1 m).toNatClampNeg, fun m hm => ?_⟩
    obtain ⟨⟨a, b, q1, q2, q3, q4, q5⟩, -⟩ := h2 m hm
    show (_ ↔ (zl.2.1 m).toNatClampNeg = 0) ∧ zl.2.1 m = nI (zl.2.1 m).toNatClampNeg ∧ (zl.2.1 m).toNatClampNeg ≤ 30
    rw [q5, nI_clamp (by omega), q1, q2, nI_leI (by omega) (by omega)]
    exact ⟨by omega, rfl, by omega⟩
  obtain ⟨r, hr⟩ := hr
  have e := itr_congr (f := lbStep zl.2.1 zl.2.2) (g := lbStep zl.2.1 zl.2.2) 6 (-1 : Int32) fun _ _ _ => rfl
  rcases lb_step (q := zl.2.1) (l := zl.2.2) (qn := r) (fun m hm => (hr m hm).2) 6 (Nat.le_refl _) with ⟨h9, -⟩ | ⟨c, c1, -, c3, c4, c5⟩
  · have h8 : lbAll zl.2.1 zl.2.2 = -1 := h9
    rw [h8] at hl; exact absurd hl (nI_n1 (by omega))
  · have h8 : lbAll zl.2.1 zl.2.2 = nI c := c4
    rw [h8, nI_eq (by omega) (by omega)] at hl
    subst hl
    have hload : ∀ m, m < 6 → zl.2.2 m = zc.2.2 m := fun m hm => (h2 m hm).2
    rcases ll_step (Q := Q) (s := zc.2.1) (l := zc.2.2) (r := r) (fun m hm => (hr m hm).1) 6 (Nat.le_refl _) with ⟨-, d2⟩ | ⟨d, d1, d2, d3, d4⟩
    · have := d2 c c1; omega
    · have x1 := d4 c c1 c3
      have x2 := c5 d d1 (by omega) d2
      rw [hload c c1, hload d d1] at x2
      have e9 : c = d := Nat.le_antisymm (x2.2 x1.1) (x1.2 x2.1)
      show itr 6 (llStep Q zc.2.1 zc.2.2) (-1) = nI c
      rw [d3, e9]
theorem sim_gv {n M t d : Nat} {P Q p o : Nat → Int32} {pn : Nat → Nat} {zc : T3} {zl : T4} (hLs : LsP n M p o pn) (hd : d < n) (hP : p d = P d) (hG : GO n M o pn t d zl) (h : Sim n Q zc (zl.1, zl.2.1, zl.2.2.1)) :
    Sim n Q (nst (gst P Q) P (nI (9 - t)) d zc) ((gvStep p (nI (9 - t)) d zl).1, (gvStep p (nI (9 - t)) d zl).2.1, (gvStep p (nI (9 - t)) d zl).2.2.1) := by
  have hn := hLs.1
  have hbest := fun hz => go_best (x := d) hLs hG hd hz
  have hr := (hG.2.1 d hd).1
  obtain ⟨g, q, l, ch⟩ := zl
  dsimp only at h hbest hr
  have hgd : g d = zc.1 d := h.1 d hd
  unfold nst gvStep
  rw [hP]
  by_cases c : P d = nI (9 - t)
  · rw [if_pos c, if_pos c]
    unfold gst
    rw [rowAt_in (f := zc.1) (n := 20) (k := d) (by omega) (by omega), rowAt_in (f := P) (n := 20) (k := d) (by omega) (by omega), ← hgd]
    show Sim n Q (if g d = -1 then gvT zc (nI d) (llAll Q zc.2.1 zc.2.2) (P d) else zc) ((if g d < 0 then gvOne d (nI (9 - t)) (lbAll q l) (g, q, l, ch) else (g, q, l, ch)).1, (if g d < 0 then gvOne d (nI (9 - t)) (lbAll q l) (g, q, l, ch) else (g, q, l, ch)).2.1, (if g d < 0 then gvOne d (nI (9 - t)) (lbAll q l) (g, q, l, ch) else (g, q, l, ch)).2.2.1)
    by_cases c3 : g d < 0
    · obtain ⟨b, b1, -, b3, b4, b5⟩ := hbest c3
      have hll := ll_lb h b1 b3
      rw [if_pos b5, if_pos c3, hll, b3, c]
      unfold gvT gvOne
      rw [rowPut_in (by omega) (by omega), rowInc_in b1 (by omega), rowInc_in b1 (by omega), nI_clamp (by omega)]
      exact h.give b1 b4
    · rw [if_neg c3, if_neg fun h9 => c3 (by rw [h9]; decide)]
      exact h
  · rw [if_neg c, if_neg c]; exact h
theorem sim_kpAll {n : Nat} {P O Q p o : Nat → Int32} {zc zl : T3} (hn : n ≤ 20) (hPO : ∀ d, d < n → p d = P d ∧ o d = O d) (ho : ∀ d, d < n → O d = -1 ∨ ∃ k, k < 6 ∧ O d = nI k) (h : Sim n Q zc zl) : ∀ t, Sim n Q (itr t (nstOut n (kst P O Q) P) zc) (itr t (kpOut n p o) zl) := by
  intro t
  induction t with
  | zero => exact h
  | succ t ih =>
    have key : ∀ d, d ≤ n → Sim n Q (itr d (nst (kst P O Q) P (nI (9 - t))) (itr t (nstOut n (kst P O Q) P) zc)) (itr d (kpStep p o (nI (9 - t))) (itr t (kpOut n p o) zl)) := by
      intro d
      induction d with
      | zero => intro _; exact ih
      | succ d ih2 =>
        intro hd
        exact sim_kp hn (by omega) (hPO d (by omega)).1 (hPO d (by omega)).2 (ho d (by omega)) (ih2 (by omega))
    exact key n (Nat.le_refl _)
theorem sim_gvAll {n M : Nat} {P Q p o gl : Nat → Int32} {pn : Nat → Nat} {zc : T3} (hLs : LsP n M p o pn) (hc : 0 < menN M) (hP : ∀ d, d < n → p d = P d) (h : Sim n Q zc (lsK n M p o gl)) : ∀ t, t ≤ 9 →
    Sim n Q (itr t (nstOut n (gst P Q) P) zc) ((itr t (gvOut n p) (ls0 n M p o gl)).1, (itr t (gvOut n p) (ls0 n M p o gl)).2.1, (itr t (gvOut n p) (ls0 n M p o gl)).2.2.1) := by
  intro t
  induction t with
  | zero => intro _; exact h
  | succ t ih =>
    intro ht
    have ih := ih (by omega)
    have key : ∀ d, d ≤ n → Sim n Q (itr d (nst (gst P Q) P (nI (9 - t))) (itr t (nstOut n (gst P Q) P) zc)) ((itr d (gvStep p (nI (9 - t))) (itr t (gvOut n p) (ls0 n M p o gl))).1, (itr d (gvStep p (nI (9 - t))) (itr t (gvOut n p) (ls0 n M p o gl))).2.1, (itr d (gvStep p (nI (9 - t))) (itr t (gvOut n p) (ls0 n M p o gl))).2.2.1) := by
      intro d
      induction d with
      | zero => intro _; exact ih
      | succ d ih2 =>
        intro hd
        exact sim_gv hLs (by omega) (hP d (by omega)) (go_ok (gl := gl) hLs hc t (by omega) d (by omega)) (ih2 (by omega))
    exact key n (Nat.le_refl _)
/-- the class's quotas -/
theorem ca_ahd {n M m : Nat} {R O W o : Nat → Int32} (hn : n ≤ 20) (hW : ∀ m, m < 6 → W m = nI (bt M m)) (hO : ∀ d, d < n → o d = O d) (hR : ∀ m, m < 6 → R m = if W m = 1 then nI (rSz O n (nI m)) else -1) (hm : m < 6) (hw : bt M m = 1) : caAll R m = ahd n M o m := by
  unfold caAll ahd cnt
  refine itr_congr 6 0 fun k hk x => ?_
  have b1 := rSz_le O n (nI m)
  have b2 := rSz_le O n (nI k)
  have e1 : rSz o n (nI m) = rSz O n (nI m) := rSz_congr hO
  have e2 : rSz o n (nI k) = rSz O n (nI k) := rSz_congr hO
  have hWm : W m = 1 := by rw [hW m hm, hw]; exact nI_01.2
  show caStep R m k x = if (wB M k && decide (kyN n o m < kyN n o k)) = true then x + 1 else x
  unfold caStep kyN
  rw [hR m hm, if_pos hWm, hR k hk, e1, e2]
  by_cases c : wB M k = true
  · have hWk : W k = 1 := by rw [hW k hk, wB_t.mp c]; exact nI_01.2
    rw [if_pos hWk, c, Bool.true_and]
    by_cases h2 : rSz O n (nI m) < rSz O n (nI k)
    · rw [if_pos (nI_lt h2 (by omega)), if_pos (decide_eq_true (by omega))]
    · rw [if_neg (nI_nlt (by omega) (by omega))]
      by_cases h3 : rSz O n (nI k) = rSz O n (nI m)
      · rw [if_pos (by rw [h3])]
        by_cases h4 : m ≤ k
        · rw [if_pos h4, if_neg (by rw [decide_eq_true_eq]; omega)]
        · rw [if_neg h4, if_pos (decide_eq_true (by omega))]
      · rw [if_neg (fun h9 => h3 ((nI_eq (by omega) (by omega)).mp h9)), if_neg (by rw [decide_eq_true_eq]; omega)]
  · have c0 : wB M k = false := Bool.eq_false_iff.mpr c
    have hWk : ¬ W k = 1 := by rw [hW k hk, wB_f c0, nI_01.1]; decide
    have n1 : ¬ nI (rSz O n (nI m)) < -1 := fun h9 => by
      have h8 : ¬ nI (rSz O n (nI m)) < 0 := nI_pos (by omega)
      exact h8 (Int32.lt_trans h9 (by decide))
    rw [if_neg hWk, c0, Bool.false_and, if_neg n1, if_neg (nI_n1 (by omega)), if_neg (show ¬ (false = true) by decide)]
theorem sq_qN {n M m : Nat} {f f2 O W o : Nat → Int32} (hn : n ≤ 20) (hW : ∀ m, m < 6 → W m = nI (bt M m)) (hO : ∀ d, d < n → o d = O d) (hm : m < 6) : sqAll (srAll O W n f) (n / menN M) (n % menN M) f2 m = nI (qN n M o m) := by
  have hR : ∀ m, m < 6 → srAll O W n f m = if W m = 1 then nI (rSz O n (nI m)) else -1 := fun m hm => sr_at hm
  generalize srAll O W n f = R at hR
  rw [sq_at hm, hR m hm]
  have b1 := rSz_le O n (nI m)
  by_cases c : bt M m = 1
  · have hWm : W m = 1 := by rw [hW m hm, c]; exact nI_01.2
    rw [if_pos hWm, if_neg (nI_n1' (by omega)), ca_ahd hn hW hO hR hm c]
    unfold qN qV
    rw [c, Nat.one_mul]
    by_cases h2 : n % menN M ≤ ahd n M o m
    · rw [if_pos h2, if_neg fun h9 => by have := (inT_t.mp h9).2; omega]; rfl
    · rw [if_neg h2, if_pos (inT_t.mpr ⟨c, by omega⟩)]
  · have c0 : bt M m = 0 := by have := bt_le M m; omega
    have hWm : ¬ W m = 1 := by rw [hW m hm, c0, nI_01.1]; decide
    rw [if_neg hWm, if_pos rfl, qN_0 c0]; exact nI_01.1.symm
/-- what the class shares out is what the law shares out -/
def LsD (D : DS) (M : Nat) (p o : Nat → Int32) : Prop := M < 64 ∧ D.2.2.2.2.2.1 ≤ 20 ∧ (∀ m, m < 6 → D.2.2.1 m = nI (bt M m)) ∧ (∀ d, d < D.2.2.2.2.2.1 → p d = D.1 d ∧ o d = D.2.1 d) ∧ (∀ d, d < D.2.2.2.2.2.1 → ∃ k, 1 ≤ k ∧ k ≤ 9 ∧ D.1 d = nI k) ∧ ∀ d, d < D.2.2.2.2.2.1 → D.2.1 d = -1 ∨ ∃ k, k < 6 ∧ D.2.1 d = nI k
theorem LsD.lsp {D : DS} {M : Nat} {p o : Nat → Int32} (h : LsD D M p o) : ∃ pn, LsP D.2.2.2.2.2.1 M p o pn := by
  obtain ⟨hM, hn, hW, hPO, hp, hO⟩ := h
  refine ⟨fun d => (D.1 d).toNatClampNeg, hn, hM, fun d hd => ?_, fun d hd => by rw [(hPO d hd).2]; exact hO d hd⟩
  obtain ⟨k, k1, k2, k3⟩ := hp d hd
  show 1 ≤ (D.1 d).toNatClampNeg ∧ (D.1 d).toNatClampNeg ≤ 9 ∧ p d = nI (D.1 d).toNatClampNeg
  rw [(hPO d hd).1, k3, nI_clamp (by omega)]
  exact ⟨k1, k2, rfl⟩
theorem ls_made {S : SS} {D : DS} {M : Nat} {p o gl : Nat → Int32} (h : LsD D M p o) (hc : 0 < menN M) : ∀ x, x < D.2.2.2.2.2.1 → (lsZ D.2.2.2.2.2.1 M p o gl).1 x = (shMade S D).1 x := by
  obtain ⟨pn, hLs⟩ := h.lsp
  obtain ⟨P, O, W, N, B, n, u⟩ := D
  obtain ⟨hM, hn, hW, hPO, hp, hO⟩ := h
  dsimp only at hn hW hPO hp hO hLs ⊢
  have hpn : ∀ d, d < n → 1 ≤ pn d ∧ pn d ≤ 9 ∧ P d = nI (pn d) := fun d hd => by rw [← (hPO d hd).1]; exact hLs.2.2.1 d hd
  have hcw : cW W = menN M := cW_men hW
  have hQ : ∀ m, m < 6 → sqAll (srAll O W n (shClear S).2.2.1) (n / menN M) (n % menN M) (shClear S).2.2.2.1 m = nI (qN n M o m) := fun m hm => sq_qN hn hW (fun d hd => (hPO d hd).2) hm
  have e : (shMade S (P, O, W, N, B, n, u)).1 = (goAll P n (soAll P n (shClear S).2.1).1 (sqAll (srAll O W n (shClear S).2.2.1) (n / menN M) (n % menN M) (shClear S).2.2.2.1) (krAll P O n (soAll P n (shClear S).2.1).1 (sqAll (srAll O W n (shClear S).2.2.1) (n / menN M) (n % menN M) (shClear S).2.2.2.1) ((shClear S).1, (shClear S).2.2.2.2.1, (shClear S).2.2.2.2.2))).1 := by
    rw [← hcw]; rfl
  rw [e]
  generalize sqAll (srAll O W n (shClear S).2.2.1) (n / menN M) (n % menN M) (shClear S).2.2.2.1 = Q at hQ
  have k1 : krAll P O n (soAll P n (shClear S).2.1).1 Q ((shClear S).1, (shClear S).2.2.2.2.1, (shClear S).2.2.2.2.2) = itr 9 (nstOut n (kst P O Q) P) ((shClear S).1, (shClear S).2.2.2.2.1, (shClear S).2.2.2.2.2) := fuse_9 (g := kst P O Q) hn hpn
  rw [k1]
  have hs0 : Sim n Q ((shClear S).1, (shClear S).2.2.2.2.1, (shClear S).2.2.2.2.2) (fillM n gl, qT n M o (n % menN M), fun _ => 0) := by
    refine ⟨fun x hx => ?_, fun m hm => ⟨⟨0, qN n M o m, hQ m hm, ?_, Nat.zero_le _, ?_, rfl⟩, ?_⟩⟩
    · show fillM n gl x = rowFill S.1 20 (-1) x
      rw [fillM_at, if_pos hx, fill_at, if_pos (by omega)]
    · show rowFill S.2.2.2.2.1 6 0 m = nI 0
      rw [fill_at, if_pos hm]; exact nI_01.1.symm
    · have := qN_le (n := n) (M := M) (m := m) (o := o) hn; omega
    · show (0 : Int32) = rowFill S.2.2.2.2.2 6 0 m
      rw [fill_at, if_pos hm]
  have hsk : Sim n Q (itr 9 (nstOut n (kst P O Q) P) ((shClear S).1, (shClear S).2.2.2.2.1, (shClear S).2.2.2.2.2)) (lsK n M p o gl) := sim_kpAll hn hPO hO hs0 9
  have k2 : goAll P n (soAll P n (shClear S).2.1).1 Q (itr 9 (nstOut n (kst P O Q) P) ((shClear S).1, (shClear S).2.2.2.2.1, (shClear S).2.2.2.2.2)) = itr 9 (nstOut n (gst P Q) P) (itr 9 (nstOut n (kst P O Q) P) ((shClear S).1, (shClear S).2.2.2.2.1, (shClear S).2.2.2.2.2)) := fuse_9 (g := gst P Q) hn hpn
  rw [k2]
  have hsg := sim_gvAll (gl := gl) hLs hc (fun d hd => (hPO d hd).1) hsk 9 (Nat.le_refl _)
  exact fun x hx => hsg.1 x hx
theorem ls_out {S : SS} {D : DS} {M : Nat} {p o gl : Nat → Int32} (h : LsD D M p o) : ∀ x, x < D.2.2.2.2.2.1 → lsG D.2.2.2.2.2.1 M p o gl x = (shOut S D).1 x := by
  intro x hx
  have hcw := cW_men h.2.2.1
  have hn := h.2.1
  unfold lsG shOut
  rw [hcw]
  by_cases c : menN M = 0
  · rw [if_pos c, if_pos c, fillM_at, if_pos hx]
    show -1 = rowFill S.1 20 (-1) x
    rw [fill_at, if_pos (by omega)]
  · rw [if_neg c, if_neg c]
    exact ls_made h (by omega) x hx
theorem ls_res {S : SS} {D : DS} {M : Nat} {p o gl : Nat → Int32} (h : LsD D M p o) : shRes S D = lsR D.2.2.2.2.2.1 M p o gl := by
  have hcw := cW_men h.2.2.1
  unfold lsR shRes
  rw [hcw]
  by_cases c : menN M = 0
  · rw [if_pos c, if_pos c]
  · rw [if_neg c, if_neg c]
    obtain ⟨pn, hLs⟩ := h.lsp
    rw [(ls_fin (gl := gl) hLs (by omega)).2]
    exact congrArg nI (cc_congr (fun d hd => (ls_made (S := S) (gl := gl) h (by omega) d hd).symm) fun d hd => ((h.2.2.2.1 d hd).2).symm)
theorem ls_own {D : DS} {M : Nat} {p o gl : Nat → Int32} (h : LsD D M p o) (hc : ¬ menN M = 0) : ∀ d, d < D.2.2.2.2.2.1 → ∃ k, k < 6 ∧ bt M k = 1 ∧ lsG D.2.2.2.2.2.1 M p o gl d = nI k := by
  obtain ⟨pn, hLs⟩ := h.lsp
  intro d hd
  unfold lsG
  rw [if_neg hc]
  exact (ls_fin (gl := gl) hLs (by omega)).1 d hd

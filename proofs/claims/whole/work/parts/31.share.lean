/-! ===== sharing out: keeping the rounds, giving out the others: both sides alike ===== -/
theorem rSz_congr {f g : Nat → Int32} {n : Nat} {y : Int32} (h : ∀ d, d < n → f d = g d) : rSz f n y = rSz g n y :=
  itr_congr n 0 fun d hd x => by unfold szStep; rw [h d hd]
theorem rLd_congr {f g P R : Nat → Int32} {n : Nat} {y : Int32} (h : ∀ d, d < n → f d = g d) (hp : ∀ d, d < n → P d = R d) : rLd P f n y = rLd R g n y :=
  itr_congr n 0 fun d hd x => by unfold ldStep; rw [h d hd, hp d hd]
theorem rSz_s (f : Nat → Int32) (n : Nat) (y : Int32) : rSz f (n + 1) y = if f n = y then rSz f n y + 1 else rSz f n y := rfl
theorem rLd_s (P f : Nat → Int32) (n : Nat) (y : Int32) : rLd P f (n + 1) y = if f n = y then rLd P f n y + P n else rLd P f n y := rfl
theorem rSz_cnt (f : Nat → Int32) (n : Nat) (y : Int32) : rSz f n y = cnt n (fun d => decide (f d = y)) :=
  itr_congr n 0 fun d hd x => by
    show (if f d = y then x + 1 else x) = if decide (f d = y) = true then x + 1 else x
    by_cases e : f d = y
    · rw [if_pos e, decide_eq_true e, if_pos rfl]
    · rw [if_neg e, decide_eq_false e, if_neg (by decide)]
theorem rSz_put {g : Nat → Int32} {n d : Nat} {v y : Int32} (hd : d < n) (h0 : ¬ g d = y) : rSz (upd g d v) n y = if v = y then rSz g n y + 1 else rSz g n y := by
  induction n with
  | zero => omega
  | succ n ih =>
    rw [rSz_s, rSz_s]
    by_cases e : d = n
    · subst e
      rw [pk_us, if_neg h0, rSz_congr (f := upd g d v) (g := g) fun j hj => pk_un (by omega)]
    · rw [pk_un (by omega), ih (by omega)]
      by_cases h1 : g n = y
      · rw [if_pos h1, if_pos h1]; split <;> rfl
      · rw [if_neg h1, if_neg h1]
theorem rLd_put {P g : Nat → Int32} {n d : Nat} {v y : Int32} (hd : d < n) (h0 : ¬ g d = y) : rLd P (upd g d v) n y = if v = y then rLd P g n y + P d else rLd P g n y := by
  induction n with
  | zero => omega
  | succ n ih =>
    rw [rLd_s, rLd_s]
    by_cases e : d = n
    · subst e
      rw [pk_us, if_neg h0, rLd_congr (f := upd g d v) (g := g) (R := P) (fun j hj => pk_un (by omega)) (fun _ _ => rfl)]
    · rw [pk_un (by omega), ih (by omega)]
      by_cases h1 : g n = y
      · rw [if_pos h1, if_pos h1]
        split
        · rw [Int32.add_assoc, Int32.add_assoc, Int32.add_comm (P d)]
        · rfl
      · rw [if_neg h1, if_neg h1]
/-- the sizes and loads of a plan -/
def GI (P : Nat → Int32) (n : Nat) (g s l : Nat → Int32) : Prop := ∀ m, m < 6 → s m = nI (rSz g n (nI m)) ∧ l m = rLd P g n (nI m)
theorem GI.give {P g s l : Nat → Int32} {n d m : Nat} (h : GI P n g s l) (hd : d < n) (h0 : g d = -1) (hm : m < 6) : GI P n (upd g d (nI m)) (upd s m (s m + 1)) (upd l m (l m + P d)) := by
  intro o ho
  obtain ⟨a1, a2⟩ := h o ho
  have hne : ¬ g d = nI o := by rw [h0]; exact nI_n1 (by omega)
  rw [rSz_put hd hne, rLd_put hd hne]
  by_cases e : o = m
  · subst e
    rw [pk_us, pk_us, if_pos rfl, if_pos rfl, a1, a2]
    exact ⟨nI_add _ 1, rfl⟩
  · have : ¬ nI m = nI o := by rw [nI_eq (by omega) (by omega)]; omega
    rw [pk_un e, pk_un e, if_neg this, if_neg this]
    exact ⟨a1, a2⟩
theorem GI.none {P g s l : Nat → Int32} {n : Nat} (hs : ∀ m, m < 6 → s m = 0 ∧ l m = 0) (hg : ∀ d, d < n → g d = -1) : GI P n g s l := by
  intro m hm
  have h1 : rSz g n (nI m) = 0 ∧ rLd P g n (nI m) = 0 := by
    clear hs
    induction n with
    | zero => exact ⟨rfl, rfl⟩
    | succ n ih =>
      obtain ⟨b1, b2⟩ := ih fun d hd => hg d (by omega)
      have : ¬ g n = nI m := by rw [hg n (by omega)]; exact nI_n1 (by omega)
      rw [rSz_s, rLd_s, if_neg this, if_neg this]
      exact ⟨b1, b2⟩
  rw [h1.1, h1.2, (hs m hm).1, (hs m hm).2]
  exact ⟨rfl, rfl⟩
/-- who keeps what -/
def ahN (O : Nat → Int32) (p : Nat → Nat) (n x : Nat) : Nat := cnt n (fun y => decide (O y = O x) && drN p y x)
def keepV (O : Nat → Int32) (p qn : Nat → Nat) (n x : Nat) : Bool := decide (0 ≤ O x) && decide (ahN O p n x < qn (O x).toNatClampNeg)
def keepG (O : Nat → Int32) (p qn : Nat → Nat) (n x : Nat) : Int32 := if keepV O p qn n x = true then O x else -1
theorem keepV_m {O : Nat → Int32} {p qn : Nat → Nat} {n x : Nat} (h : O x = -1) : keepV O p qn n x = false := by
  unfold keepV; rw [h]; rfl
theorem keepV_k {O : Nat → Int32} {p qn : Nat → Nat} {n x k : Nat} (h : O x = nI k) (hk : k < 6) : keepV O p qn n x = decide (ahN O p n x < qn k) := by
  have h1 : decide (0 ≤ O x) = true := decide_eq_true (by rw [h]; exact nI_pos' (by omega))
  have h2 : (O x).toNatClampNeg = k := by rw [h, nI_clamp (by omega)]
  unfold keepV
  rw [h1, h2, Bool.true_and]
section KEEP
variable {P O F Q : Nat → Int32} {p qn : Nat → Nat} {n : Nat}
theorem gvT_in {z : T3} {x m : Nat} {v : Int32} (hx : x < 20) (hm : m < 6) : gvT z (nI x) (nI m) v = (upd z.1 x (nI m), upd z.2.1 m (z.2.1 m + 1), upd z.2.2 m (z.2.2 m + v)) := by
  unfold gvT
  rw [rowPut_in hx (by omega), rowInc_in hm (by omega), rowInc_in hm (by omega)]
def KI (P O F : Nat → Int32) (p qn : Nat → Nat) (n i : Nat) (z : T3) : Prop :=
  (∀ x, x < n → z.1 x = if (bB F i x && keepV O p qn n x) = true then O x else -1) ∧ GI P n z.1 z.2.1 z.2.2 ∧ ∀ m, m < 6 → rSz z.1 n (nI m) = min (cnt n (fun y => decide (O y = nI m) && bB F i y)) (qn m)
theorem kr_step (hn : n ≤ 20) (hO : ∀ d, d < n → O d = -1 ∨ ∃ k, k < 6 ∧ O d = nI k) (hF : Ord p n F) (hQ : ∀ m, m < 6 → Q m = nI (qn m) ∧ qn m ≤ 30) {i : Nat} (hi : i < n) {z : T3} (h : KI P O F p qn n i z) : KI P O F p qn n (i + 1) (krStep P O F Q i z) := by
  obtain ⟨g, s, l⟩ := z
  obtain ⟨h1, h2, h3⟩ := h
  dsimp only at h1 h2 h3
  obtain ⟨x, hx, hfx, -⟩ := hF.2 i hi
  have hb : ∀ y, y < n → bB F i y = drN p y x := fun y hy => hF.b hn hi hx hfx hy
  have hbx : bB F i x = false := by
    rw [hb x hx]; exact Bool.eq_false_iff.mpr fun h9 => by have := drN_t.mp h9; omega
  have hb1 : ∀ y, y < n → y ≠ x → bB F (i + 1) y = bB F i y := fun y hy hyx => by
    rw [bB_s, hfx, decide_eq_false (by rw [nI_eq (by omega) (by omega)]; omega), Bool.or_false]
  have hb2 : bB F (i + 1) x = true := by rw [bB_s, hfx, decide_eq_true rfl, Bool.or_true]
  have hOx : rowAt O 20 (F i) = O x := by rw [hfx, rowAt_in (by omega) (by omega)]
  have hPx : rowAt P 20 (F i) = P x := by rw [hfx, rowAt_in (by omega) (by omega)]
  have hcm : ∀ m, m < 6 → ¬ O x = nI m → cnt n (fun y => decide (O y = nI m) && bB F (i + 1) y) = cnt n (fun y => decide (O y = nI m) && bB F i y) := fun m hm hne => cnt_congr fun y hy => by
    by_cases e : y = x
    · subst e; rw [decide_eq_false hne]; rfl
    · rw [hb1 y hy e]
  unfold krStep
  rw [hOx, hPx]
  rcases hO x hx with hm1 | ⟨k, hk, hxk⟩
  · rw [if_pos hm1]
    refine ⟨fun y hy => ?_, h2, fun m hm => ?_⟩
    · show g y = _
      rw [h1 y hy]
      by_cases e : y = x
      · subst e; rw [keepV_m hm1, Bool.and_false, Bool.and_false]
      · rw [hb1 y hy e]
    · show rSz g n (nI m) = _
      rw [hcm m hm (by rw [hm1]; exact nI_n1 (by omega))]
      exact h3 m hm
  · have hcx : cnt n (fun y => decide (O y = nI k) && bB F i y) = ahN O p n x := cnt_congr fun y hy => by rw [hb y hy, hxk]
    have hck : cnt n (fun y => decide (O y = nI k) && bB F (i + 1) y) = ahN O p n x + 1 := by
      rw [← hcx]
      exact cnt_set hx (by rw [hbx, Bool.and_false]) (by rw [hb2, decide_eq_true hxk]; rfl) (fun y hy hyx => by rw [hb1 y hy hyx])
    have hsk := h3 k hk
    rw [hcx] at hsk
    obtain ⟨q1, q2⟩ := hQ k hk
    have hsl : s k = nI (min (ahN O p n x) (qn k)) := by rw [(h2 k hk).1, hsk]
    rw [if_neg (by rw [hxk]; exact nI_n1' (by omega)), hxk, rowAt_in hk (by omega), rowAt_in hk (by omega)]
    show KI P O F p qn n (i + 1) (if Q k ≤ s k then (g, s, l) else gvT (g, s, l) (F i) (nI k) (P x))
    have hle : Q k ≤ s k ↔ qn k ≤ ahN O p n x := by
      rw [q1, hsl, nI_leI (by omega) (by omega)]; omega
    have hkv := keepV_k (p := p) (qn := qn) (n := n) hxk hk
    by_cases hc : qn k ≤ ahN O p n x
    · rw [if_pos (hle.mpr hc)]
      have hkf : keepV O p qn n x = false := by rw [hkv]; exact decide_eq_false (by omega)
      refine ⟨fun y hy => ?_, h2, fun m hm => ?_⟩
      · show g y = _
        rw [h1 y hy]
        by_cases e : y = x
        · subst e; rw [hkf, Bool.and_false, Bool.and_false]
        · rw [hb1 y hy e]
      · show rSz g n (nI m) = _
        by_cases e : m = k
        · subst e; rw [hck, hsk]; omega
        · rw [hcm m hm (by rw [hxk, nI_eq (by omega) (by omega)]; omega)]
          exact h3 m hm
    · rw [if_neg (fun h9 => hc (hle.mp h9)), hfx, gvT_in (by omega) hk]
      have hkt : keepV O p qn n x = true := by rw [hkv]; exact decide_eq_true (by omega)
      have hg0 : g x = -1 := by rw [h1 x hx, hbx, Bool.false_and, if_neg (by decide)]
      refine ⟨fun y hy => ?_, h2.give hx hg0 hk, fun m hm => ?_⟩
      · show upd g x (nI k) y = _
        by_cases e : y = x
        · subst e; rw [pk_us, hb2, hkt, Bool.and_true, if_pos rfl, hxk]
        · rw [pk_un e, h1 y hy, hb1 y hy e]
      · show rSz (upd g x (nI k)) n (nI m) = _
        rw [rSz_put hx (by rw [hg0]; exact nI_n1 (by omega))]
        by_cases e : m = k
        · subst e; rw [if_pos rfl, hck, hsk]; omega
        · rw [if_neg (by rw [nI_eq (by omega) (by omega)]; omega), hcm m hm (by rw [hxk, nI_eq (by omega) (by omega)]; omega)]
          exact h3 m hm
theorem kr_ok (hn : n ≤ 20) (hO : ∀ d, d < n → O d = -1 ∨ ∃ k, k < 6 ∧ O d = nI k) (hF : Ord p n F) (hQ : ∀ m, m < 6 → Q m = nI (qn m) ∧ qn m ≤ 30) {z : T3} (hg : ∀ x, x < n → z.1 x = -1) (hs : ∀ m, m < 6 → z.2.1 m = 0 ∧ z.2.2 m = 0) :
    ∀ i, i ≤ n → KI P O F p qn n i (itr i (krStep P O F Q) z) := by
  intro i
  induction i with
  | zero =>
    intro _
    have hg0 := GI.none (P := P) hs hg
    refine ⟨fun x hx => ?_, hg0, fun m hm => ?_⟩
    · show z.1 x = _
      rw [hg x hx, show bB F 0 x = false from rfl, Bool.false_and, if_neg (by decide)]
    · show rSz z.1 n (nI m) = _
      rw [cnt_zero fun y hy => by rw [show bB F 0 y = false from rfl, Bool.and_false], Nat.zero_min, rSz_cnt, cnt_zero fun y hy => by
        rw [hg y hy]; exact decide_eq_false (nI_n1 (by omega))]
  | succ i ih =>
    intro hi
    exact kr_step hn hO hF hQ (by omega) (ih (by omega))
theorem kr_end (hn : n ≤ 20) (hO : ∀ d, d < n → O d = -1 ∨ ∃ k, k < 6 ∧ O d = nI k) (hF : Ord p n F) (hQ : ∀ m, m < 6 → Q m = nI (qn m) ∧ qn m ≤ 30) {z : T3} (hg : ∀ x, x < n → z.1 x = -1) (hs : ∀ m, m < 6 → z.2.1 m = 0 ∧ z.2.2 m = 0) :
    (∀ x, x < n → (krAll P O n F Q z).1 x = keepG O p qn n x) ∧ GI P n (krAll P O n F Q z).1 (krAll P O n F Q z).2.1 (krAll P O n F Q z).2.2 := by
  obtain ⟨h1, h2, -⟩ := kr_ok (P := P) (qn := qn) hn hO hF hQ hg hs n (Nat.le_refl _)
  refine ⟨fun x hx => ?_, h2⟩
  have hb : bB F n x = true := (bB_t n).mpr (hF.1 x hx)
  have h9 := h1 x hx
  rw [hb, Bool.true_and] at h9
  exact h9
/-- the reference's keeping -/
theorem ka_cnt {z : Nat → Int32} (hn : n ≤ 20) (hzO : ∀ d, d < n → z (21 + d) = O d) (hzP : ∀ d, d < n → z (1 + d) = nI (p d)) (hp : ∀ d, d < n → p d ≤ 9) {x : Nat} (hx : x < n) : kaAll z n (z (21 + x)) x = ahN O p n x :=
  itr_congr n 0 fun y hy a => by
    have e : mDear z y x = drN p y x := by
      have := hp x hx
      have := hp y hy
      refine Bool.eq_iff_iff.mpr ?_
      unfold mDear
      rw [drN_t, hzP x hx, hzP y hy, Bool.or_eq_true, Bool.and_eq_true, decide_eq_true_eq, decide_eq_true_eq, decide_eq_true_eq, nI_ltI (by omega) (by omega), nI_eq (by omega) (by omega)]
    unfold kaStep
    rw [hzO y hy, hzO x hx, e]
    show (if O y = O x then (if drN p y x = true then a + 1 else a) else a) = if (decide (O y = O x) && drN p y x) = true then a + 1 else a
    by_cases h1 : O y = O x
    · rw [if_pos h1, decide_eq_true h1, Bool.true_and]
    · rw [if_neg h1, decide_eq_false h1, Bool.false_and, if_neg (by decide)]
theorem ko_ok2 {z : Nat → Int32} (hn : n ≤ 20) (hO : ∀ d, d < n → O d = -1 ∨ ∃ k, k < 6 ∧ O d = nI k) (hzO : ∀ d, d < n → z (21 + d) = O d) (hP : ∀ d, d < n → P d = nI (p d)) (hzP : ∀ d, d < n → z (1 + d) = P d) (hp : ∀ d, d < n → p d ≤ 9) (hQ : ∀ m, m < 6 → Q m = nI (qn m) ∧ qn m ≤ 30)
    {q : M3} (hs : ∀ m, m < 6 → q.2.1 m = 0 ∧ q.2.2 m = 0) : ∀ i, i ≤ n → (∀ x, x < i → (itr i (koStep z n Q) q).1 x = keepG O p qn n x) ∧ GI P i (itr i (koStep z n Q) q).1 (itr i (koStep z n Q) q).2.1 (itr i (koStep z n Q) q).2.2 := by
  intro i
  induction i with
  | zero => intro _; exact ⟨fun x hx => absurd hx (Nat.not_lt_zero _), GI.none hs fun d hd => absurd hd (Nat.not_lt_zero _)⟩
  | succ i ih =>
    intro hi
    obtain ⟨h1, h2⟩ := ih (by omega)
    show (∀ x, x < i + 1 → (koStep z n Q i (itr i (koStep z n Q) q)).1 x = _) ∧ GI P (i + 1) (koStep z n Q i (itr i (koStep z n Q) q)).1 (koStep z n Q i (itr i (koStep z n Q) q)).2.1 (koStep z n Q i (itr i (koStep z n Q) q)).2.2
    generalize itr i (koStep z n Q) q = w at h1 h2
    obtain ⟨g, s, l⟩ := w
    dsimp only at h1 h2
    have hG : GI P (i + 1) (upd g i (-1)) s l := by
      intro m hm
      obtain ⟨a1, a2⟩ := h2 m hm
      have : ¬ upd g i (-1) i = nI m := by rw [pk_us]; exact nI_n1 (by omega)
      rw [rSz_s, rLd_s, if_neg this, if_neg this, rSz_congr (f := upd g i (-1)) (g := g) fun j hj => pk_un (by omega), rLd_congr (f := upd g i (-1)) (g := g) (R := P) (fun j hj => pk_un (by omega)) (fun _ _ => rfl)]
      exact ⟨a1, a2⟩
    have hka := ka_cnt (x := i) hn hzO (fun d hd => (hzP d hd).trans (hP d hd)) hp (by omega)
    unfold koStep
    rw [hka, hzO i (by omega)]
    rcases hO i (by omega) with hm1 | ⟨k, hk, hxk⟩
    · rw [hm1, if_pos (by decide)]
      refine ⟨fun x hx => ?_, hG⟩
      show upd g i (-1) x = _
      by_cases e : x = i
      · subst e; unfold keepG; rw [pk_us, keepV_m hm1, if_neg (by decide)]
      · rw [pk_un e]; exact h1 x (by omega)
    · have hkv := keepV_k (p := p) (qn := qn) (n := n) hxk hk
      obtain ⟨q1, q2⟩ := hQ k hk
      have hal : ahN O p n i ≤ n := cnt_le _ _
      rw [hxk, if_neg (nI_pos (by omega)), nI_clamp (by omega), q1]
      by_cases hc : qn k ≤ ahN O p n i
      · rw [if_pos (nI_le hc (by omega))]
        refine ⟨fun x hx => ?_, hG⟩
        show upd g i (-1) x = _
        by_cases e : x = i
        · subst e; unfold keepG; rw [pk_us, hkv, decide_eq_false (by omega), if_neg (by decide)]
        · rw [pk_un e]; exact h1 x (by omega)
      · rw [if_neg (nI_ge (by omega) (by omega))]
        have hg2 := hG.give (m := k) (d := i) (by omega) pk_us hk
        unfold gvM
        rw [hzP i (by omega)]
        refine ⟨fun x hx => ?_, hg2⟩
        show upd (upd g i (-1)) i (nI k) x = _
        by_cases e : x = i
        · subst e; unfold keepG; rw [pk_us, hkv, decide_eq_true (by omega), if_pos rfl, hxk]
        · rw [pk_un e, pk_un e]; exact h1 x (by omega)
end KEEP
section GIVE
/-- the least loaded: alike -/
theorem ll_nm {Q s l : Nat → Int32} : ∀ i, i ≤ 6 → itr i (llStep Q s l) (-1) = (match itr i (nmStep Q s l) none with | none => -1 | some k => nI k) ∧ ∀ k, itr i (nmStep Q s l) none = some k → k < i := by
  intro i
  induction i with
  | zero => intro _; exact ⟨rfl, fun k h => by cases h⟩
  | succ i ih =>
    intro hi
    obtain ⟨h1, h2⟩ := ih (by omega)
    show llStep Q s l i (itr i (llStep Q s l) (-1)) = (match nmStep Q s l i (itr i (nmStep Q s l) none) with | none => -1 | some k => nI k) ∧ ∀ k, nmStep Q s l i (itr i (nmStep Q s l) none) = some k → k < i + 1
    rw [h1]
    generalize itr i (nmStep Q s l) none = b at h2
    unfold llStep nmStep
    by_cases hq : Q i ≤ s i
    · rw [if_pos hq, if_pos hq]
      exact ⟨rfl, fun k hk => by have := h2 k hk; omega⟩
    · rw [if_neg hq, if_neg hq]
      cases b with
      | none => exact ⟨rfl, fun k hk => by cases hk; omega⟩
      | some j =>
        have hj := h2 j rfl
        dsimp only
        rw [if_neg (nI_n1' (by omega)), rowAt_in (by omega) (by omega)]
        by_cases hp : l j ≤ l i
        · rw [if_pos hp, if_pos hp]; exact ⟨rfl, fun k hk => by cases hk; omega⟩
        · rw [if_neg hp, if_neg hp]; exact ⟨rfl, fun k hk => by cases hk; omega⟩
theorem ll_some {Q s l : Nat → Int32} {m : Nat} (h : nmAll Q s l = some m) : llAll Q s l = nI m := by
  obtain ⟨h1, -⟩ := ll_nm (Q := Q) (s := s) (l := l) 6 (Nat.le_refl _)
  have h9 : itr 6 (nmStep Q s l) none = some m := h
  rw [h9] at h1
  exact h1
theorem nm_step {Q R s t l k : Nat → Int32} {i : Nat} {b : Option Nat} (h1 : Q i = R i) (h2 : s i = t i) (h3 : l i = k i) (hb : ∀ j, b = some j → l j = k j) : nmStep Q s l i b = nmStep R t k i b := by
  unfold nmStep
  rw [h1, h2]
  cases b with
  | none => rfl
  | some j => dsimp only; rw [hb j rfl, h3]
theorem nm_congr {Q R s t l k : Nat → Int32} (h1 : ∀ m, m < 6 → Q m = R m) (h2 : ∀ m, m < 6 → s m = t m) (h3 : ∀ m, m < 6 → l m = k m) : nmAll Q s l = nmAll R t k := by
  have key : ∀ i, i ≤ 6 → itr i (nmStep Q s l) none = itr i (nmStep R t k) none := by
    intro i
    induction i with
    | zero => intro _; exact (rfl : (none : Option Nat) = none)
    | succ i ih =>
      intro hi
      show nmStep Q s l i (itr i (nmStep Q s l) none) = nmStep R t k i (itr i (nmStep R t k) none)
      rw [ih (by omega)]
      exact nm_step (h1 i (by omega)) (h2 i (by omega)) (h3 i (by omega)) fun j hj => h3 j (by have := (nm_some i j hj).1; omega)
  unfold nmAll
  exact key 6 (Nat.le_refl 6)
theorem nd_best {z g : Nat → Int32} {n x : Nat} (hx : x < n) (h0 : ¬ 0 ≤ g x) (hb : ∀ y, y < n → ¬ 0 ≤ g y → y ≠ x → mDear z x y = true ∧ mDear z y x = false) : ndAll z g n = some x := by
  have key : ∀ k, x < k → k ≤ n → itr k (ndStep z g) none = some x := by
    intro k
    induction k with
    | zero => intro h; omega
    | succ k ih =>
      intro hk hkn
      show ndStep z g k (itr k (ndStep z g) none) = some x
      by_cases e : k = x
      · subst e
        have hs : ∀ j, itr k (ndStep z g) none = some j → j < k ∧ ¬ 0 ≤ g j := fun j hj => ndAll_some k j hj
        generalize itr k (ndStep z g) none = b at hs
        unfold ndStep
        rw [if_neg h0]
        cases b with
        | none => rfl
        | some j =>
          obtain ⟨j1, j2⟩ := hs j rfl
          dsimp only
          rw [if_pos (hb j (by omega) j2 (by omega)).1]
      · rw [ih (by omega) (by omega)]
        unfold ndStep
        by_cases h1 : 0 ≤ g k
        · rw [if_pos h1]
        · rw [if_neg h1]
          dsimp only
          rw [(hb k (by omega) h1 e).2, if_neg (by decide)]
  exact key n hx (Nat.le_refl _)
variable {P O F Q : Nat → Int32} {p qn : Nat → Nat} {n : Nat}
theorem go_whl {z R : Nat → Int32} (hn : n ≤ 20) (hF : Ord p n F) (hP : ∀ d, d < n → P d = nI (p d)) (hzP : ∀ d, d < n → z (1 + d) = P d) (hp : ∀ d, d < n → p d ≤ 9) (hQR : ∀ m, m < 6 → Q m = R m) {z0 : T3} {s0 : M3} (hC : CapI n R s0)
    (h1 : ∀ x, x < n → z0.1 x = s0.1 x) (h2 : ∀ m, m < 6 → z0.2.1 m = s0.2.1 m ∧ z0.2.2 m = s0.2.2 m) (h3 : ∀ x, x < n → s0.1 x = -1 ∨ 0 ≤ s0.1 x) :
    ∀ i, i ≤ n → ∃ (f : Nat) (s : M3), whl z R n n s0 = whl z R n f s ∧ CapI n R s ∧ undN s.1 n ≤ f ∧ (∀ x, x < n → (itr i (goStep P F Q) z0).1 x = s.1 x) ∧ (∀ m, m < 6 → (itr i (goStep P F Q) z0).2.1 m = s.2.1 m ∧ (itr i (goStep P F Q) z0).2.2 m = s.2.2 m) ∧ (∀ x, x < n → s.1 x = -1 ∨ 0 ≤ s.1 x) ∧ (∀ x, x < n → bB F i x = true → 0 ≤ s.1 x) := by
  intro i
  induction i with
  | zero => intro _; exact ⟨n, s0, rfl, hC, undN_le _ _, h1, h2, h3, fun x hx h9 => by cases h9⟩
  | succ i ih =>
    intro hi
    obtain ⟨f, s, a1, a2, a3, a4, a5, a6, a7⟩ := ih (by omega)
    show ∃ (f : Nat) (s : M3), whl z R n n s0 = whl z R n f s ∧ CapI n R s ∧ undN s.1 n ≤ f ∧ (∀ x, x < n → (goStep P F Q i (itr i (goStep P F Q) z0)).1 x = s.1 x) ∧ (∀ m, m < 6 → (goStep P F Q i (itr i (goStep P F Q) z0)).2.1 m = s.2.1 m ∧ (goStep P F Q i (itr i (goStep P F Q) z0)).2.2 m = s.2.2 m) ∧ (∀ x, x < n → s.1 x = -1 ∨ 0 ≤ s.1 x) ∧ (∀ x, x < n → bB F (i + 1) x = true → 0 ≤ s.1 x)
    generalize itr i (goStep P F Q) z0 = w at a4 a5
    obtain ⟨g, sz, ld⟩ := w
    dsimp only at a4 a5
    obtain ⟨x, hx, hfx, -⟩ := hF.2 i (by omega)
    have hb : ∀ y, y < n → bB F i y = drN p y x := fun y hy => hF.b hn (by omega) hx hfx hy
    have hb1 : ∀ y, y < n → bB F (i + 1) y = true → bB F i y = true ∨ y = x := fun y hy h9 => by
      rw [bB_s, hfx, Bool.or_eq_true, decide_eq_true_eq, nI_eq (by omega) (by omega)] at h9
      rcases h9 with h9 | h9
      · exact Or.inl h9
      · exact Or.inr h9.symm
    have hPx : rowAt P 20 (F i) = P x := by rw [hfx, rowAt_in (by omega) (by omega)]
    have hgx : rowAt g 20 (F i) = s.1 x := by rw [hfx, rowAt_in (by omega) (by omega), a4 x hx]
    unfold goStep
    rw [hPx]
    show ∃ (f : Nat) (s : M3), _ ∧ _ ∧ _ ∧ (∀ x_1, x_1 < n → (if rowAt g 20 (F i) = -1 then gvT (g, sz, ld) (F i) (llAll Q sz ld) (P x) else (g, sz, ld)).1 x_1 = s.1 x_1) ∧ (∀ m, m < 6 → (if rowAt g 20 (F i) = -1 then gvT (g, sz, ld) (F i) (llAll Q sz ld) (P x) else (g, sz, ld)).2.1 m = s.2.1 m ∧ (if rowAt g 20 (F i) = -1 then gvT (g, sz, ld) (F i) (llAll Q sz ld) (P x) else (g, sz, ld)).2.2 m = s.2.2 m) ∧ _ ∧ _
    rw [hgx]
    rcases a6 x hx with hm | hm
    · rw [if_pos hm]
      have hu : ¬ 0 ≤ s.1 x := by rw [hm]; decide
      have hnd : ndAll z s.1 n = some x := nd_best hx hu fun y hy hy0 hyx => by
        have hby : ¬ bB F i y = true := fun h9 => hy0 (a7 y hy h9)
        rw [hb y hy, drN_t] at hby
        have := hp x hx
        have := hp y hy
        constructor
        · unfold mDear
          rw [hzP x hx, hzP y hy, hP x hx, hP y hy, Bool.or_eq_true, Bool.and_eq_true, decide_eq_true_eq, decide_eq_true_eq, decide_eq_true_eq, nI_ltI (by omega) (by omega), nI_eq (by omega) (by omega)]
          omega
        · refine Bool.eq_false_iff.mpr ?_
          unfold mDear
          rw [hzP x hx, hzP y hy, hP x hx, hP y hy]
          intro h9
          rw [Bool.or_eq_true, Bool.and_eq_true, decide_eq_true_eq, decide_eq_true_eq, decide_eq_true_eq, nI_ltI (by omega) (by omega), nI_eq (by omega) (by omega)] at h9
          omega
      obtain ⟨m, m1, m2, -, m4, m5⟩ := cap_step a2 hnd
      have hll : llAll Q sz ld = nI m := ll_some (by rw [nm_congr hQR (fun o ho => (a5 o ho).1) (fun o ho => (a5 o ho).2)]; exact m1)
      rw [hll, hfx, gvT_in (by omega) m2]
      cases f with
      | zero => omega
      | succ f =>
        refine ⟨f, gvM z x m s, a1.trans (whl_some hnd m1), m4, by omega, fun y hy => ?_, fun o ho => ?_, fun y hy => ?_, fun y hy h9 => ?_⟩
        · show upd g x (nI m) y = upd s.1 x (nI m) y
          by_cases e : y = x
          · subst e; rw [pk_us, pk_us]
          · rw [pk_un e, pk_un e]; exact a4 y hy
        · show upd sz m (sz m + 1) o = upd s.2.1 m (s.2.1 m + 1) o ∧ upd ld m (ld m + P x) o = upd s.2.2 m (s.2.2 m + z (1 + x)) o
          rw [hzP x hx]
          by_cases e : o = m
          · subst e; rw [pk_us, pk_us, pk_us, pk_us, (a5 o ho).1, (a5 o ho).2]; exact ⟨rfl, rfl⟩
          · rw [pk_un e, pk_un e, pk_un e, pk_un e]; exact a5 o ho
        · show upd s.1 x (nI m) y = -1 ∨ 0 ≤ upd s.1 x (nI m) y
          by_cases e : y = x
          · subst e; rw [pk_us]; exact Or.inr (nI_pos' (by omega))
          · rw [pk_un e]; exact a6 y hy
        · show 0 ≤ upd s.1 x (nI m) y
          by_cases e : y = x
          · subst e; rw [pk_us]; exact nI_pos' (by omega)
          · rw [pk_un e]
            rcases hb1 y hy h9 with h8 | h8
            · exact a7 y hy h8
            · exact absurd h8 e
    · rw [if_neg (fun e => by rw [e] at hm; exact absurd hm (by decide))]
      refine ⟨f, s, a1, a2, a3, a4, a5, a6, fun y hy h9 => ?_⟩
      rcases hb1 y hy h9 with h8 | h8
      · exact a7 y hy h8
      · subst h8; exact hm
theorem go_end {z R : Nat → Int32} (hn : n ≤ 20) (hF : Ord p n F) (hP : ∀ d, d < n → P d = nI (p d)) (hzP : ∀ d, d < n → z (1 + d) = P d) (hp : ∀ d, d < n → p d ≤ 9) (hQR : ∀ m, m < 6 → Q m = R m) {z0 : T3} {s0 : M3} (hC : CapI n R s0)
    (h1 : ∀ x, x < n → z0.1 x = s0.1 x) (h2 : ∀ m, m < 6 → z0.2.1 m = s0.2.1 m ∧ z0.2.2 m = s0.2.2 m) (h3 : ∀ x, x < n → s0.1 x = -1 ∨ 0 ≤ s0.1 x) : ∀ x, x < n → (goAll P n F Q z0).1 x = (whl z R n n s0).1 x := by
  obtain ⟨f, s, a1, -, -, a4, -, -, a7⟩ := go_whl (z := z) hn hF hP hzP hp hQR hC h1 h2 h3 n (Nat.le_refl _)
  intro x hx
  have hnone : ndAll z s.1 n = none := by
    cases h9 : ndAll z s.1 n with
    | none => rfl
    | some d =>
      obtain ⟨d1, d2⟩ := ndAll_some n d h9
      exact absurd (a7 d d1 ((bB_t n).mpr (hF.1 d d1))) d2
  rw [a1, whl_none hnone]
  exact a4 x hx
end GIVE

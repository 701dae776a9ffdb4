/-! ===== what each call does to the class's dairy and to the law's numbers ===== -/
def RH (D : DS) (M : Nat) (r : Nat → Int32) : Prop := ¬ D.2.2.2.2.2.2.1 = 0 → ∀ d, d < D.2.2.2.2.2.1 → r d = D.2.2.2.2.1 d ∧ (∃ k, k < 6 ∧ bt M k = 1 ∧ D.2.2.2.1 d = nI k) ∧ OwB M (D.2.2.2.2.1 d) ∧ (D.2.2.2.2.2.2.1 = 1 → D.2.1 d = D.2.2.2.2.1 d) ∧ (D.2.2.2.2.2.2.1 = 2 → D.2.1 d = if D.2.2.2.1 d = D.2.2.2.2.1 d then D.2.2.2.2.1 d else -1)
def RA (D : DS) (M : Nat) (g p w q r : Nat → Int32) : Prop := RQ D M g p w q ∧ RH D M r
theorem dHas_out {n : Nat} (hn : n ≤ 20) : dHas n (nI n) = false := by
  have h1 : nI n ≤ nI n := Int32.le_refl _
  unfold dHas
  rw [decide_eq_true h1]
  simp
theorem dHas_m1 {n : Nat} : dHas n (-1) = false := by
  unfold dHas
  rw [decide_eq_true (show (-1 : Int32) < 0 by decide)]
  rfl
theorem svS_le {V : HS} {D : DS} (h : V.1 ≤ 6) : (svS V D).1 ≤ 6 := by
  unfold svS
  split
  · show V.1 + 1 ≤ 6; omega
  · show 6 ≤ 6; omega
section STEPS
variable {D : DS} {M : Nat} {g p w q r : Nat → Int32}
theorem RA.n20 (h : RA D M g p w q r) : D.2.2.2.2.2.1 ≤ 20 := h.1.2.1
theorem RA.m64 (h : RA D M g p w q r) : M < 64 := h.1.1
theorem RA.st (h : RA D M g p w q r) : D.2.2.2.2.2.2.1 = 0 ∨ D.2.2.2.2.2.2.1 = 1 ∨ D.2.2.2.2.2.2.1 = 2 := h.1.2.2.2.2.2.2.2.2.2.2.2.2.1
theorem ho_t {x : Int32} (h : x = 0 ∨ x = 1 ∨ x = 2) (h1 : 0 < x) : ¬ x = 0 := fun e => by rw [e] at h1; exact absurd h1 (by decide)
theorem ho_f {x : Int32} (h : x = 0 ∨ x = 1 ∨ x = 2) (h1 : ¬ 0 < x) : x = 0 := by
  rcases h with e | e | e
  · exact e
  · rw [e] at h1; exact absurd (by decide) h1
  · rw [e] at h1; exact absurd (by decide) h1
theorem ho_l {x : Int32} (h : x = 0 ∨ x = 1 ∨ x = 2) : x ≤ 0 ↔ x = 0 := by rcases h with e | e | e <;> rw [e] <;> decide
theorem dho_f (h : D.2.2.2.2.2.2.1 = 0) : dHO D = false := by unfold dHO; rw [decide_eq_true h]; rfl
theorem dho_t (h : ¬ D.2.2.2.2.2.2.1 = 0) : dHO D = true := by unfold dHO; rw [decide_eq_false h]; rfl
theorem RA.add {v : Nat} (h : RA D M g p w q r) (h0 : D.2.2.2.2.2.2.1 = 0) (hn : D.2.2.2.2.2.1 < 20) (hv : 1 ≤ v ∧ v ≤ 9) : RA (dAdd D (nI v)) M (upd g 0 (nI (D.2.2.2.2.2.1 + 1))) (upd p D.2.2.2.2.2.1 (nI v)) (upd w D.2.2.2.2.2.1 (-1)) q r := by
  obtain ⟨⟨a1, a2, a3, a4, a5, a6, b0, b1, b2, b3, b4, b5, a7, a8⟩, hH⟩ := h
  refine ⟨⟨a1, ?_, a3, fun d hd => ?_, fun d hd => ?_, fun d hd => ?_, pk_us, ?_, ?_, ?_, ?_, ?_, a7, fun h9 => absurd h0 h9⟩, fun h9 => absurd h0 h9⟩
  · show D.2.2.2.2.2.1 + 1 ≤ 20; omega
  · have hd : d < D.2.2.2.2.2.1 + 1 := hd
    show upd p D.2.2.2.2.2.1 (nI v) d = upd D.1 D.2.2.2.2.2.1 (nI v) d ∧ upd w D.2.2.2.2.2.1 (-1) d = upd D.2.1 D.2.2.2.2.2.1 (-1) d
    by_cases e : d = D.2.2.2.2.2.1
    · rw [e, pk_us, pk_us, pk_us, pk_us]; exact ⟨rfl, rfl⟩
    · rw [pk_un e, pk_un e, pk_un e, pk_un e]; exact a4 d (by omega)
  · have hd : d < D.2.2.2.2.2.1 + 1 := hd
    show ∃ k, 1 ≤ k ∧ k ≤ 9 ∧ upd D.1 D.2.2.2.2.2.1 (nI v) d = nI k
    by_cases e : d = D.2.2.2.2.2.1
    · rw [e, pk_us]; exact ⟨v, hv.1, hv.2, rfl⟩
    · rw [pk_un e]; exact a5 d (by omega)
  · have hd : d < D.2.2.2.2.2.1 + 1 := hd
    show OwB M (upd D.2.1 D.2.2.2.2.2.1 (-1) d)
    by_cases e : d = D.2.2.2.2.2.1
    · rw [e, pk_us]; exact Or.inl rfl
    · rw [pk_un e]; exact a6 d (by omega)
  · rw [pk_un (by decide)]; exact b1
  · rw [pk_un (by decide)]; exact b2
  · rw [pk_un (by decide)]; exact b3
  · rw [pk_un (by decide)]; exact b4
  · rw [pk_un (by decide)]; exact b5
theorem RA.set {v k : Nat} (h : RA D M g p w q r) (hk : k < D.2.2.2.2.2.1) (hv : 1 ≤ v ∧ v ≤ 9) : RA (dPts D k (nI v)) M g (upd p k (nI v)) w q r := by
  obtain ⟨⟨a1, a2, a3, a4, a5, a6, b0, b1, b2, b3, b4, b5, a7, a8⟩, hH⟩ := h
  refine ⟨⟨a1, a2, a3, fun d hd => ?_, fun d hd => ?_, a6, b0, b1, b2, b3, b4, b5, a7, a8⟩, hH⟩
  · show upd p k (nI v) d = upd D.1 k (nI v) d ∧ w d = D.2.1 d
    by_cases e : d = k
    · subst e; rw [pk_us, pk_us]; exact ⟨rfl, (a4 d hd).2⟩
    · rw [pk_un e, pk_un e]; exact a4 d hd
  · show ∃ j, 1 ≤ j ∧ j ≤ 9 ∧ upd D.1 k (nI v) d = nI j
    by_cases e : d = k
    · subst e; rw [pk_us]; exact ⟨v, hv.1, hv.2, rfl⟩
    · rw [pk_un e]; exact a5 d hd
def gapF (k : Nat) (t : Nat) (f : Nat → Int32) : Nat → Int32 := itr t (fun t f => upd f (k + t) (f (k + t + 1))) f
theorem RA.rem {k : Nat} (h : RA D M g p w q r) (h0 : D.2.2.2.2.2.2.1 = 0) (hk : k < D.2.2.2.2.2.1) : RA (dRem D k) M (upd g 0 (nI (D.2.2.2.2.2.1 - 1))) (gapF k (D.2.2.2.2.2.1 - 1 - k) p) (gapF k (D.2.2.2.2.2.1 - 1 - k) w) q r := by
  obtain ⟨⟨a1, a2, a3, a4, a5, a6, b0, b1, b2, b3, b4, b5, a7, a8⟩, hH⟩ := h
  have e1 : ∀ (f : Nat → Int32) (d : Nat), d < D.2.2.2.2.2.1 - 1 → gapF k (D.2.2.2.2.2.1 - 1 - k) f d = if k ≤ d then f (d + 1) else f d := fun f d hd => by
    unfold gapF
    rw [gap_at (n := D.2.2.2.2.2.1) (D.2.2.2.2.2.1 - 1 - k) (by omega)]
    by_cases c : k ≤ d
    · rw [if_pos c, if_pos (by omega)]
    · rw [if_neg c, if_neg (by omega)]
  have e2 : ∀ (f : Nat → Int32) (d : Nat), d < D.2.2.2.2.2.1 - 1 → rowGap f 20 k d = if k ≤ d then f (d + 1) else f d := fun f d hd => by
    rw [rowGap_at (by omega)]
    by_cases c : k ≤ d
    · rw [if_pos c, if_pos (by omega)]
    · rw [if_neg c, if_neg (by omega)]
  refine ⟨⟨a1, ?_, a3, fun d hd => ?_, fun d hd => ?_, fun d hd => ?_, pk_us, ?_, ?_, ?_, ?_, ?_, a7, fun h9 => absurd h0 h9⟩, fun h9 => absurd h0 h9⟩
  · show D.2.2.2.2.2.1 - 1 ≤ 20; omega
  · have hd : d < D.2.2.2.2.2.1 - 1 := hd
    show gapF k (D.2.2.2.2.2.1 - 1 - k) p d = rowGap D.1 20 k d ∧ gapF k (D.2.2.2.2.2.1 - 1 - k) w d = rowGap D.2.1 20 k d
    rw [e1 p d hd, e1 w d hd, e2 _ d hd, e2 _ d hd]
    by_cases c : k ≤ d
    · rw [if_pos c, if_pos c, if_pos c, if_pos c]; exact a4 (d + 1) (by omega)
    · rw [if_neg c, if_neg c, if_neg c, if_neg c]; exact a4 d (by omega)
  · have hd : d < D.2.2.2.2.2.1 - 1 := hd
    show ∃ j, 1 ≤ j ∧ j ≤ 9 ∧ rowGap D.1 20 k d = nI j
    rw [e2 _ d hd]
    by_cases c : k ≤ d
    · rw [if_pos c]; exact a5 (d + 1) (by omega)
    · rw [if_neg c]; exact a5 d (by omega)
  · have hd : d < D.2.2.2.2.2.1 - 1 := hd
    show OwB M (rowGap D.2.1 20 k d)
    rw [e2 _ d hd]
    by_cases c : k ≤ d
    · rw [if_pos c]; exact a6 (d + 1) (by omega)
    · rw [if_neg c]; exact a6 d (by omega)
  · rw [pk_un (by decide)]; exact b1
  · rw [pk_un (by decide)]; exact b2
  · rw [pk_un (by decide)]; exact b3
  · rw [pk_un (by decide)]; exact b4
  · rw [pk_un (by decide)]; exact b5
theorem OwB.or {m : Nat} {x : Int32} (hM : M < 64) (hm : m < 6) (h : OwB M x) : OwB (M ||| 2 ^ m) x := by
  rcases h with h1 | ⟨k, k1, k2, k3⟩
  · exact Or.inl h1
  · refine Or.inr ⟨k, k1, ?_, k3⟩
    rw [bt_or M hM m hm k k1]
    split
    · rfl
    · exact k2
theorem RA.come {m : Nat} (h : RA D M g p w q r) (h0 : D.2.2.2.2.2.2.1 = 0) (hm : m < 6) : RA (dWel D m) (M ||| 2 ^ m) (upd g 5 (nI (M ||| 2 ^ m))) p w q r := by
  obtain ⟨⟨a1, a2, a3, a4, a5, a6, b0, b1, b2, b3, b4, b5, a7, a8⟩, hH⟩ := h
  refine ⟨⟨or_lt M a1 m hm, a2, fun k hk => ?_, a4, a5, fun d hd => (a6 d hd).or a1 hm, ?_, ?_, ?_, ?_, ?_, pk_us, a7, fun h9 => absurd h0 h9⟩, fun h9 => absurd h0 h9⟩
  · show upd D.2.2.1 m 1 k = _
    rw [bt_or M a1 m hm k hk]
    by_cases e : k = m
    · subst e; rw [pk_us, if_pos rfl]; exact nI_01.2.symm
    · rw [pk_un e, if_neg e]; exact a3 k hk
  · rw [pk_un (by decide)]; exact b0
  · rw [pk_un (by decide)]; exact b1
  · rw [pk_un (by decide)]; exact b2
  · rw [pk_un (by decide)]; exact b3
  · rw [pk_un (by decide)]; exact b4
theorem come_men {m : Nat} (h : RA D M g p w q r) (hm : m < 6) : cW (upd D.2.2.1 m 1) = menN (M ||| 2 ^ m) := cW_men fun k hk => by
  have a1 := h.1.1
  rw [bt_or M a1 m hm k hk]
  by_cases e : k = m
  · subst e; rw [pk_us, if_pos rfl]; exact nI_01.2.symm
  · rw [pk_un e, if_neg e]; exact h.1.2.2.1 k hk
def lvF (m : Nat) (n : Nat) (w : Nat → Int32) : Nat → Int32 := itr n (fun d f => upd f d (if f d = nI m then -1 else f d)) w
theorem lvF_at {m : Nat} {w : Nat → Int32} : ∀ n d, lvF m n w d = if d < n ∧ w d = nI m then -1 else w d := by
  intro n
  induction n with
  | zero => intro d; rw [if_neg fun h9 => absurd h9.1 (Nat.not_lt_zero _)]; rfl
  | succ n ih =>
    intro d
    show upd (lvF m n w) n (if lvF m n w n = nI m then -1 else lvF m n w n) d = _
    have e0 : lvF m n w n = w n := by rw [ih n, if_neg fun h9 => absurd h9.1 (Nat.lt_irrefl _)]
    rw [e0]
    by_cases e : d = n
    · subst e
      rw [pk_us]
      by_cases c : w d = nI m
      · rw [if_pos c, if_pos ⟨by omega, c⟩]
      · rw [if_neg c, if_neg fun h9 => c h9.2]
    · rw [pk_un e, ih d]
      by_cases c : d < n ∧ w d = nI m
      · rw [if_pos c, if_pos ⟨by omega, c.2⟩]
      · rw [if_neg c, if_neg fun h9 => c ⟨by omega, h9.2⟩]
theorem RA.leave {m : Nat} (h : RA D M g p w q r) (h0 : D.2.2.2.2.2.2.1 = 0) (hm : m < 6) (hb : bt M m = 1) : RA (dDis D m) (M ^^^ 2 ^ m) (upd g 5 (nI (M ^^^ 2 ^ m))) p (lvF m D.2.2.2.2.2.1 w) q r := by
  obtain ⟨⟨a1, a2, a3, a4, a5, a6, b0, b1, b2, b3, b4, b5, a7, a8⟩, hH⟩ := h
  have hx : ∀ k, k < 6 → bt (M ^^^ 2 ^ m) k = if k = m then 1 - bt M k else bt M k := fun k hk => bt_xor M a1 m hm k hk
  have hO : ∀ d, d < D.2.2.2.2.2.1 → (dDis D m).2.1 d = if D.2.1 d = nI m then -1 else D.2.1 d := fun d hd => by
    show (itr D.2.2.2.2.2.1 (dsStep (nI m)) (D.2.1, 0)).1 d = _
    rw [(ds_at (nI m) D.2.1 D.2.2.2.2.2.1).1 d]
    by_cases c : D.2.1 d = nI m
    · rw [if_pos ⟨hd, c⟩, if_pos c]
    · rw [if_neg fun h9 => c h9.2, if_neg c]
  refine ⟨⟨xor_lt M a1 m hm, a2, fun k hk => ?_, fun d hd => ⟨(a4 d hd).1, ?_⟩, a5, fun d hd => ?_, ?_, ?_, ?_, ?_, ?_, pk_us, a7, fun h9 => absurd h0 h9⟩, fun h9 => absurd h0 h9⟩
  · show upd D.2.2.1 m 0 k = _
    rw [hx k hk]
    by_cases e : k = m
    · subst e; rw [pk_us, if_pos rfl, hb]; exact nI_01.1.symm
    · rw [pk_un e, if_neg e]; exact a3 k hk
  · have hd : d < D.2.2.2.2.2.1 := hd
    rw [hO d hd, lvF_at, (a4 d hd).2]
    by_cases c : D.2.1 d = nI m
    · rw [if_pos ⟨hd, c⟩, if_pos c]
    · rw [if_neg fun h9 => c h9.2, if_neg c]
  · have hd : d < D.2.2.2.2.2.1 := hd
    rw [hO d hd]
    by_cases c : D.2.1 d = nI m
    · rw [if_pos c]; exact Or.inl rfl
    · rw [if_neg c]
      rcases a6 d hd with h1 | ⟨k, k1, k2, k3⟩
      · exact Or.inl h1
      · refine Or.inr ⟨k, k1, ?_, k3⟩
        rw [hx k k1, if_neg fun e => c (by rw [k3, e])]
        exact k2
  · rw [pk_un (by decide)]; exact b0
  · rw [pk_un (by decide)]; exact b1
  · rw [pk_un (by decide)]; exact b2
  · rw [pk_un (by decide)]; exact b3
  · rw [pk_un (by decide)]; exact b4
theorem leave_n {m : Nat} (h : RA D M g p w q r) : (dsAll D.2.1 D.2.2.2.2.2.1 (nI m)).2 = rSz w D.2.2.2.2.2.1 (nI m) :=
  ((ds_at (nI m) D.2.1 D.2.2.2.2.2.1).2).trans (rSz_congr fun d hd => ((h.1.2.2.2.1 d hd).2).symm)
def cpF (n : Nat) (a f : Nat → Int32) : Nat → Int32 := itr n (fun d f => upd f d (a d)) f
theorem cpF_at {n d : Nat} {a f : Nat → Int32} (hd : d < n) : cpF n a f d = a d := by
  have e := itr_at (f0 := f) (g := fun d f => upd f d (a d)) (v := a) (fun _ _ => rfl) n d
  rw [if_pos hd] at e
  exact e
theorem i_pos {k : Nat} (hk : k ≤ 20) : 0 < nI k ↔ ¬ k = 0 := by
  constructor
  · intro h9 e; rw [e, nI_01.1] at h9; exact absurd h9 (by decide)
  · intro h9
    have h8 := nI_nle (n := k) (by omega) (by omega)
    rw [Int32.le_iff_toInt_le] at h8
    rw [Int32.lt_iff_toInt_lt]
    omega
theorem plan_s {S : SS} {gl : Nat → Int32} (h : RA D M g p w q r) : (0 < lsR D.2.2.2.2.2.1 M p w gl ↔ ¬ shRes S D ≤ 0) := by
  rw [← ls_res (S := S) (gl := gl) h.1.lsd, Int32.le_iff_toInt_le, Int32.lt_iff_toInt_lt]
  omega
theorem RA.plan {S : SS} {gl : Nat → Int32} (h : RA D M g p w q r) (h0 : D.2.2.2.2.2.2.1 = 0) (hM : ¬ M = 0) :
    RA (mpD S D) M (upd g 1 (if 0 < lsR D.2.2.2.2.2.1 M p w gl then 1 else 0)) p w (cpF D.2.2.2.2.2.1 (lsG D.2.2.2.2.2.1 M p w gl) q) (cpF D.2.2.2.2.2.1 w r) := by
  have hs := plan_s (S := S) (gl := gl) h
  have hout := ls_out (S := S) (gl := gl) h.1.lsd
  have hc : ¬ menN M = 0 := fun h9 => hM ((menN_0 M h.1.1).mp h9)
  have hown := ls_own (gl := gl) h.1.lsd hc
  obtain ⟨⟨a1, a2, a3, a4, a5, a6, b0, b1, b2, b3, b4, b5, a7, a8⟩, hH⟩ := h
  unfold mpD
  by_cases c : shRes S D ≤ 0
  · rw [if_pos c, if_neg fun h9 => hs.mp h9 c]
    refine ⟨⟨a1, a2, a3, a4, a5, a6, ?_, ?_, ?_, ?_, ?_, ?_, a7, fun h9 => absurd h0 h9⟩, fun h9 => absurd h0 h9⟩
    · rw [pk_un (by decide)]; exact b0
    · rw [pk_us]; exact h0.symm
    · rw [pk_un (by decide)]; exact b2
    · rw [pk_un (by decide)]; exact b3
    · rw [pk_un (by decide)]; exact b4
    · rw [pk_un (by decide)]; exact b5
  · rw [if_neg c, if_pos (hs.mpr c)]
    have hN : ∀ d, d < D.2.2.2.2.2.1 → (dBg D (shOut S D)).2.2.2.1 d = lsG D.2.2.2.2.2.1 M p w gl d := fun d hd => by
      show rowCopy D.2.2.2.1 (shOut S D).1 D.2.2.2.2.2.1 d = _
      rw [copy_at, if_pos hd]; exact (hout d hd).symm
    have hB : ∀ d, d < D.2.2.2.2.2.1 → (dBg D (shOut S D)).2.2.2.2.1 d = D.2.1 d := fun d hd => by
      show rowCopy D.2.2.2.2.1 D.2.1 20 d = _
      rw [copy_at, if_pos (by omega)]
    refine ⟨⟨a1, a2, a3, a4, a5, a6, ?_, ?_, ?_, ?_, ?_, ?_, Or.inr (Or.inl rfl), fun _ d hd => ?_⟩, fun _ d hd => ?_⟩
    · rw [pk_un (by decide)]; exact b0
    · exact pk_us
    · rw [pk_un (by decide)]; exact b2
    · rw [pk_un (by decide)]; exact b3
    · rw [pk_un (by decide)]; exact b4
    · rw [pk_un (by decide)]; exact b5
    · have hd : d < D.2.2.2.2.2.1 := hd
      rw [cpF_at hd, hN d hd]
    · have hd : d < D.2.2.2.2.2.1 := hd
      rw [cpF_at hd, hB d hd, hN d hd]
      refine ⟨(a4 d hd).2, hown d hd, a6 d hd, fun _ => rfl, fun h9 => ?_⟩
      have h9 : (1 : Int32) = 2 := h9
      exact absurd h9 (by decide)
/-- the law hands over -/
def hoF (st : Int32) (q r : Nat → Int32) (d : Nat) (z : (Nat → Int32) × Nat) : (Nat → Int32) × Nat := if q d = r d then z else (upd z.1 d (if st = 2 then q d else -1), z.2 + (if st = 2 then 1 else if 0 ≤ r d then 1 else 0))
theorem hoF_at {st : Int32} {q r w : Nat → Int32} : ∀ n d, (itr n (hoF st q r) (w, 0)).1 d = if d < n ∧ ¬ q d = r d then (if st = 2 then q d else -1) else w d := by
  intro n
  induction n with
  | zero => intro d; rw [if_neg fun h9 => absurd h9.1 (Nat.not_lt_zero _)]; rfl
  | succ n ih =>
    intro d
    show (hoF st q r n (itr n (hoF st q r) (w, 0))).1 d = _
    generalize itr n (hoF st q r) (w, 0) = z at ih
    unfold hoF
    by_cases c : q n = r n
    · rw [if_pos c, ih d]
      by_cases c2 : d < n ∧ ¬ q d = r d
      · rw [if_pos c2, if_pos (c := d < n + 1 ∧ ¬ q d = r d) ⟨by omega, c2.2⟩]
      · rw [if_neg c2, if_neg fun h9 => c2 ⟨by
          have : d ≠ n := fun e => by subst e; exact h9.2 c
          omega, h9.2⟩]
    · rw [if_neg c]
      show upd z.1 n (if st = 2 then q n else -1) d = _
      by_cases e : d = n
      · subst e; rw [pk_us, if_pos (c := d < d + 1 ∧ ¬ q d = r d) ⟨by omega, c⟩]
      · rw [pk_un e, ih d]
        by_cases c2 : d < n ∧ ¬ q d = r d
        · rw [if_pos c2, if_pos (c := d < n + 1 ∧ ¬ q d = r d) ⟨by omega, c2.2⟩]
        · rw [if_neg c2, if_neg fun h9 => c2 ⟨by omega, h9.2⟩]
theorem hoF_le {st : Int32} {q r w : Nat → Int32} : ∀ n, (itr n (hoF st q r) (w, 0)).2 ≤ n := by
  intro n
  induction n with
  | zero => exact Nat.le_refl _
  | succ n ih =>
    show (hoF st q r n (itr n (hoF st q r) (w, 0))).2 ≤ n + 1
    generalize itr n (hoF st q r) (w, 0) = z at ih
    unfold hoF
    split
    · omega
    · show z.2 + (if st = 2 then 1 else if 0 ≤ r n then 1 else 0) ≤ n + 1
      split
      · omega
      · split <;> omega
theorem OwB.pos {x : Int32} (h : OwB M x) : 0 ≤ x ↔ ¬ x = -1 := by
  rcases h with h1 | ⟨k, k1, -, h1⟩
  · rw [h1]; decide
  · rw [h1]; exact ⟨fun _ => nI_n1' (by omega), fun _ => nI_pos' (by omega)⟩
theorem ho_cnt1 (h : RA D M g p w q r) (h1 : D.2.2.2.2.2.2.1 = 1) : ∀ i, i ≤ D.2.2.2.2.2.1 → (itr i (guStep D.2.2.2.1) (D.2.1, 0)).2 = (itr i (hoF D.2.2.2.2.2.2.1 q r) (w, 0)).2 := by
  have hq := h.1.2.2.2.2.2.2.2.2.2.2.2.2.2
  have hH := h.2
  have hn0 : ¬ D.2.2.2.2.2.2.1 = 0 := by rw [h1]; decide
  intro i
  induction i with
  | zero => intro _; rfl
  | succ i ih =>
    intro hi
    have ih := ih (by omega)
    obtain ⟨r1, ⟨k, k1, -, k3⟩, r3, r4, -⟩ := hH hn0 i (by omega)
    have ga := gu_at D.2.2.2.1 D.2.1 i i
    rw [if_neg fun h9 => absurd h9.1 (Nat.lt_irrefl _)] at ga
    show (guStep D.2.2.2.1 i (itr i (guStep D.2.2.2.1) (D.2.1, 0))).2 = (hoF D.2.2.2.2.2.2.1 q r i (itr i (hoF D.2.2.2.2.2.2.1 q r) (w, 0))).2
    generalize itr i (guStep D.2.2.2.1) (D.2.1, 0) = z at ih ga
    generalize itr i (hoF D.2.2.2.2.2.2.1 q r) (w, 0) = y at ih
    unfold guStep hoF
    rw [ga, r4 h1, hq hn0 i (by omega), r1, h1]
    have hp := r3.pos
    by_cases c1 : D.2.2.2.2.1 i = -1
    · rw [if_pos c1, c1, if_neg (by rw [k3]; exact nI_n1' (by omega))]
      show z.2 = y.2 + (if (1 : Int32) = 2 then 1 else if (0 : Int32) ≤ -1 then 1 else 0)
      rw [if_neg (by decide), if_neg (by decide)]; exact ih
    · rw [if_neg c1]
      by_cases c2 : D.2.2.2.2.1 i = D.2.2.2.1 i
      · rw [if_pos c2, if_pos c2.symm]; exact ih
      · rw [if_neg c2, if_neg fun h9 => c2 h9.symm]
        show z.2 + 1 = y.2 + (if (1 : Int32) = 2 then 1 else if 0 ≤ D.2.2.2.2.1 i then 1 else 0)
        rw [if_neg (by decide), if_pos (hp.mpr c1), ih]
theorem ho_cnt2 (h : RA D M g p w q r) (h1 : D.2.2.2.2.2.2.1 = 2) : ∀ i, i ≤ D.2.2.2.2.2.1 → (itr i (mvStep D.2.2.2.1) (D.2.1, 0)).2 = (itr i (hoF D.2.2.2.2.2.2.1 q r) (w, 0)).2 := by
  have hq := h.1.2.2.2.2.2.2.2.2.2.2.2.2.2
  have hH := h.2
  have hn0 : ¬ D.2.2.2.2.2.2.1 = 0 := by rw [h1]; decide
  intro i
  induction i with
  | zero => intro _; rfl
  | succ i ih =>
    intro hi
    have ih := ih (by omega)
    obtain ⟨r1, ⟨k, k1, -, k3⟩, -, -, r5⟩ := hH hn0 i (by omega)
    have ga := mv_at D.2.2.2.1 D.2.1 i i
    rw [if_neg (Nat.lt_irrefl _), r5 h1] at ga
    show (mvStep D.2.2.2.1 i (itr i (mvStep D.2.2.2.1) (D.2.1, 0))).2 = (hoF D.2.2.2.2.2.2.1 q r i (itr i (hoF D.2.2.2.2.2.2.1 q r) (w, 0))).2
    generalize itr i (mvStep D.2.2.2.1) (D.2.1, 0) = z at ih ga
    generalize itr i (hoF D.2.2.2.2.2.2.1 q r) (w, 0) = y at ih
    unfold mvStep hoF
    rw [ga, hq hn0 i (by omega), r1, h1]
    by_cases c1 : D.2.2.2.1 i = D.2.2.2.2.1 i
    · rw [if_pos c1, if_pos c1.symm, if_pos c1]; exact ih
    · rw [if_neg c1, if_neg (by rw [k3]; exact nI_n1 (by omega)), if_neg c1]
      show z.2 + 1 = y.2 + (if (2 : Int32) = 2 then 1 else if 0 ≤ D.2.2.2.2.1 i then 1 else 0)
      rw [if_pos rfl, ih]
theorem ho_res (h : RA D M g p w q r) (h0 : ¬ D.2.2.2.2.2.2.1 = 0) : dNextR D = (itr D.2.2.2.2.2.1 (hoF D.2.2.2.2.2.2.1 q r) (w, 0)).2 := by
  unfold dNextR
  rcases h.st with e | e | e
  · exact absurd e h0
  · rw [if_pos e]; exact ho_cnt1 h e _ (Nat.le_refl _)
  · rw [if_neg (by rw [e]; decide)]; exact ho_cnt2 h e _ (Nat.le_refl _)
def hoG (g : Nat → Int32) (st : Int32) (k : Nat) : Nat → Int32 := upd (upd g 2 (g 2 + (if st = 2 then nI k else 0))) 1 (if st = 1 then 2 else 0)
theorem RA.hand (h : RA D M g p w q r) (h0 : ¬ D.2.2.2.2.2.2.1 = 0) : RA (dNext D) M (hoG g D.2.2.2.2.2.2.1 (itr D.2.2.2.2.2.1 (hoF D.2.2.2.2.2.2.1 q r) (w, 0)).2) p (itr D.2.2.2.2.2.1 (hoF D.2.2.2.2.2.2.1 q r) (w, 0)).1 q r := by
  have c2 : D.2.2.2.2.2.2.1 = 2 → (itr D.2.2.2.2.2.1 (mvStep D.2.2.2.1) (D.2.1, 0)).2 = (itr D.2.2.2.2.2.1 (hoF D.2.2.2.2.2.2.1 q r) (w, 0)).2 := fun e => ho_cnt2 h e _ (Nat.le_refl _)
  have hw := hoF_at (st := D.2.2.2.2.2.2.1) (q := q) (r := r) (w := w) D.2.2.2.2.2.1
  generalize itr D.2.2.2.2.2.1 (hoF D.2.2.2.2.2.2.1 q r) (w, 0) = z at c2 hw
  obtain ⟨⟨a1, a2, a3, a4, a5, a6, b0, b1, b2, b3, b4, b5, a7, a8⟩, hH⟩ := h
  have hqd := a8 h0
  have hH := hH h0
  have g0 : ∀ j, j ≠ 1 → j ≠ 2 → hoG g D.2.2.2.2.2.2.1 z.2 j = g j := fun j j1 j2 => by unfold hoG; rw [pk_un j1, pk_un j2]
  have g1 : hoG g D.2.2.2.2.2.2.1 z.2 1 = if D.2.2.2.2.2.2.1 = 1 then 2 else 0 := pk_us
  have g2 : hoG g D.2.2.2.2.2.2.1 z.2 2 = g 2 + (if D.2.2.2.2.2.2.1 = 2 then nI z.2 else 0) := by unfold hoG; rw [pk_un (by decide), pk_us]
  generalize hoG g D.2.2.2.2.2.2.1 z.2 = g' at g0 g1 g2
  unfold dNext
  rcases a7 with e | e | e
  · exact absurd e h0
  · rw [if_pos e]
    rw [e, if_pos rfl] at g1
    rw [e, if_neg (by decide), Int32.add_zero] at g2
    rw [e] at hw
    have hO : ∀ d, d < D.2.2.2.2.2.1 → (dGive D).2.1 d = if D.2.2.2.1 d = D.2.2.2.2.1 d then D.2.2.2.2.1 d else -1 := fun d hd => by
      obtain ⟨-, ⟨k, k1, -, k3⟩, r3, r4, -⟩ := hH d hd
      show (itr D.2.2.2.2.2.1 (guStep D.2.2.2.1) (D.2.1, 0)).1 d = _
      rw [gu_at, r4 e]
      by_cases c : D.2.2.2.1 d = D.2.2.2.2.1 d
      · rw [if_pos c, if_neg fun h9 => h9.2.2 c.symm]
      · rw [if_neg c]
        by_cases c3 : D.2.2.2.2.1 d = -1
        · rw [if_neg fun h9 => h9.2.1 c3, c3]
        · rw [if_pos ⟨hd, c3, fun h9 => c h9.symm⟩]
    have hwd : ∀ d, d < D.2.2.2.2.2.1 → z.1 d = (dGive D).2.1 d := fun d hd => by
      rw [hO d hd, hw d, hqd d hd, (hH d hd).1, (a4 d hd).2, (hH d hd).2.2.2.1 e]
      by_cases c : D.2.2.2.1 d = D.2.2.2.2.1 d
      · rw [if_pos c, if_neg fun h9 => h9.2 c]
      · rw [if_neg c, if_pos ⟨hd, c⟩, if_neg (by decide)]
    refine ⟨⟨a1, a2, a3, fun d hd => ⟨(a4 d hd).1, hwd d hd⟩, a5, fun d hd => ?_, ?_, ?_, ?_, ?_, ?_, ?_, Or.inr (Or.inr rfl), fun _ => hqd⟩, fun _ d hd => ?_⟩
    · have hd : d < D.2.2.2.2.2.1 := hd
      rw [hO d hd]
      split
      · exact (hH d hd).2.2.1
      · exact Or.inl rfl
    · rw [g0 0 (by decide) (by decide)]; exact b0
    · rw [g1]; rfl
    · rw [g2]; exact b2
    · rw [g0 3 (by decide) (by decide)]; exact b3
    · rw [g0 4 (by decide) (by decide)]; exact b4
    · rw [g0 5 (by decide) (by decide)]; exact b5
    · have hd : d < D.2.2.2.2.2.1 := hd
      obtain ⟨x1, x2, x3, -, -⟩ := hH d hd
      refine ⟨x1, x2, x3, fun h9 => ?_, fun _ => hO d hd⟩
      have h9 : (2 : Int32) = 1 := h9
      exact absurd h9 (by decide)
  · rw [if_neg (by rw [e]; decide)]
    rw [e, if_neg (by decide)] at g1
    rw [e, if_pos rfl] at g2
    rw [e] at hw
    have hO : ∀ d, d < D.2.2.2.2.2.1 → (dTake D).2.1 d = D.2.2.2.1 d := fun d hd => by
      show (itr D.2.2.2.2.2.1 (mvStep D.2.2.2.1) (D.2.1, 0)).1 d = _
      rw [mv_at, if_pos hd]
    have hwd : ∀ d, d < D.2.2.2.2.2.1 → z.1 d = (dTake D).2.1 d := fun d hd => by
      rw [hO d hd, hw d, hqd d hd, (hH d hd).1, (a4 d hd).2, (hH d hd).2.2.2.2 e]
      by_cases c : D.2.2.2.1 d = D.2.2.2.2.1 d
      · rw [if_pos c, if_neg fun h9 => h9.2 c]; exact c.symm
      · rw [if_pos ⟨hd, c⟩, if_pos rfl]
    have hst0 : (dTake D).2.2.2.2.2.2.1 = 0 := rfl
    refine ⟨⟨a1, a2, a3, fun d hd => ⟨(a4 d hd).1, hwd d hd⟩, a5, fun d hd => ?_, ?_, ?_, ?_, ?_, ?_, ?_, Or.inl rfl, fun h9 => absurd hst0 h9⟩, fun h9 => absurd hst0 h9⟩
    · have hd : d < D.2.2.2.2.2.1 := hd
      rw [hO d hd]
      obtain ⟨k, k1, k2, k3⟩ := (hH d hd).2.1
      exact Or.inr ⟨k, k1, k2, k3⟩
    · rw [g0 0 (by decide) (by decide)]; exact b0
    · rw [g1]; rfl
    · rw [g2, b2, ← c2 e]; rfl
    · rw [g0 3 (by decide) (by decide)]; exact b3
    · rw [g0 4 (by decide) (by decide)]; exact b4
    · rw [g0 5 (by decide) (by decide)]; exact b5
/-- the law calls off -/
def coF (st : Int32) (q r : Nat → Int32) (d : Nat) (x : Nat) : Nat := if st = 2 then (if q d = r d then x else if 0 ≤ r d then x + 1 else x) else x
theorem coF_le {st : Int32} {q r : Nat → Int32} : ∀ n, itr n (coF st q r) 0 ≤ n := by
  intro n
  induction n with
  | zero => exact Nat.le_refl _
  | succ n ih =>
    show coF st q r n (itr n (coF st q r) 0) ≤ n + 1
    generalize itr n (coF st q r) 0 = z at ih
    unfold coF
    split
    · split
      · omega
      · split <;> omega
    · omega
theorem co_cnt (h : RA D M g p w q r) (h0 : ¬ D.2.2.2.2.2.2.1 = 0) : (mvAll D.2.2.2.2.1 D.2.1 D.2.2.2.2.2.1).2 = itr D.2.2.2.2.2.1 (coF D.2.2.2.2.2.2.1 q r) 0 := by
  have hq := h.1.2.2.2.2.2.2.2.2.2.2.2.2.2 h0
  have hH := h.2 h0
  have hst := h.st
  have key : ∀ i, i ≤ D.2.2.2.2.2.1 → (itr i (mvStep D.2.2.2.2.1) (D.2.1, 0)).2 = itr i (coF D.2.2.2.2.2.2.1 q r) 0 := by
    intro i
    induction i with
    | zero => intro _; rfl
    | succ i ih =>
      intro hi
      have ih := ih (by omega)
      obtain ⟨r1, ⟨k, k1, -, k3⟩, r3, r4, r5⟩ := hH i (by omega)
      have ga := mv_at D.2.2.2.2.1 D.2.1 i i
      rw [if_neg (Nat.lt_irrefl _)] at ga
      show (mvStep D.2.2.2.2.1 i (itr i (mvStep D.2.2.2.2.1) (D.2.1, 0))).2 = coF D.2.2.2.2.2.2.1 q r i (itr i (coF D.2.2.2.2.2.2.1 q r) 0)
      generalize itr i (mvStep D.2.2.2.2.1) (D.2.1, 0) = z at ih ga
      generalize itr i (coF D.2.2.2.2.2.2.1 q r) 0 = y at ih
      unfold mvStep coF
      rw [ga, hq i (by omega), r1]
      have hp := r3.pos
      rcases hst with e | e | e
      · exact absurd e h0
      · rw [r4 e, if_pos rfl, e, if_neg (by decide)]; exact ih
      · rw [r5 e, e, if_pos rfl]
        by_cases c : D.2.2.2.1 i = D.2.2.2.2.1 i
        · rw [if_pos c, if_pos rfl, if_pos c]; exact ih
        · rw [if_neg c, if_neg c]
          by_cases c2 : D.2.2.2.2.1 i = -1
          · rw [c2, if_pos rfl, if_neg (by decide)]; exact ih
          · rw [if_neg fun h9 => c2 h9.symm, if_pos (hp.mpr c2)]
            show z.2 + 1 = y + 1
            rw [ih]
  exact key _ (Nat.le_refl _)
theorem RA.off (h : RA D M g p w q r) (h0 : ¬ D.2.2.2.2.2.2.1 = 0) : RA (dBack D) M (upd g 1 0) p (cpF D.2.2.2.2.2.1 r w) q r := by
  obtain ⟨⟨a1, a2, a3, a4, a5, a6, b0, b1, b2, b3, b4, b5, a7, a8⟩, hH⟩ := h
  have hH := hH h0
  have hO : ∀ d, d < D.2.2.2.2.2.1 → (dBack D).2.1 d = D.2.2.2.2.1 d := fun d hd => by
    show (itr D.2.2.2.2.2.1 (mvStep D.2.2.2.2.1) (D.2.1, 0)).1 d = _
    rw [mv_at, if_pos hd]
  have hst0 : (dBack D).2.2.2.2.2.2.1 = 0 := rfl
  refine ⟨⟨a1, a2, a3, fun d hd => ⟨(a4 d hd).1, ?_⟩, a5, fun d hd => ?_, ?_, ?_, ?_, ?_, ?_, ?_, Or.inl rfl, fun h9 => absurd hst0 h9⟩, fun h9 => absurd hst0 h9⟩
  · have hd : d < D.2.2.2.2.2.1 := hd
    rw [hO d hd, cpF_at hd]; exact (hH d hd).1
  · have hd : d < D.2.2.2.2.2.1 := hd
    rw [hO d hd]; exact (hH d hd).2.2.1
  · rw [pk_un (by decide)]; exact b0
  · exact pk_us
  · rw [pk_un (by decide)]; exact b2
  · rw [pk_un (by decide)]; exact b3
  · rw [pk_un (by decide)]; exact b4
  · rw [pk_un (by decide)]; exact b5
/-- the law delivers -/
def dlF (p w : Nat → Int32) (d : Nat) (z : Int32 × Int32) : Int32 × Int32 := if w d < 0 then (z.1, z.2 + 1) else (z.1 + p d, z.2)
theorem dl_bm (h : RA D M g p w q r) : ∀ i, i ≤ D.2.2.2.2.2.1 → itr i (bmStep D.1 D.2.1) (0, D.2.2.2.2.2.2.2.2.2) = itr i (dlF p w) (0, D.2.2.2.2.2.2.2.2.2) := by
  intro i
  induction i with
  | zero => intro _; rfl
  | succ i ih =>
    intro hi
    show bmStep D.1 D.2.1 i (itr i (bmStep D.1 D.2.1) (0, D.2.2.2.2.2.2.2.2.2)) = dlF p w i (itr i (dlF p w) (0, D.2.2.2.2.2.2.2.2.2))
    rw [ih (by omega)]
    have hpo := h.1.2.2.2.1 i (by omega)
    have hneg := (h.1.2.2.2.2.2.1 i (by omega)).neg
    unfold bmStep dlF
    rw [hpo.1, hpo.2]
    by_cases c : D.2.1 i = -1
    · rw [if_pos c, if_pos (hneg.mpr c)]
    · rw [if_neg c, if_neg fun h9 => c (hneg.mp h9)]
theorem RA.dlv (h : RA D M g p w q r) : RA (dBring D) M (upd (upd g 4 (itr D.2.2.2.2.2.1 (dlF p w) (0, D.2.2.2.2.2.2.2.2.2)).2) 3 (D.2.2.2.2.2.2.2.2.1 + (itr D.2.2.2.2.2.1 (dlF p w) (0, D.2.2.2.2.2.2.2.2.2)).1)) p w q r := by
  have e := dl_bm h _ (Nat.le_refl _)
  rw [← e]
  obtain ⟨⟨a1, a2, a3, a4, a5, a6, b0, b1, b2, b3, b4, b5, a7, a8⟩, hH⟩ := h
  refine ⟨⟨a1, a2, a3, a4, a5, a6, ?_, ?_, ?_, ?_, ?_, ?_, a7, a8⟩, hH⟩
  · rw [pk_un (by decide), pk_un (by decide)]; exact b0
  · rw [pk_un (by decide), pk_un (by decide)]; exact b1
  · rw [pk_un (by decide), pk_un (by decide)]; exact b2
  · rw [pk_us]; rfl
  · rw [pk_un (by decide), pk_us]; rfl
  · rw [pk_un (by decide), pk_un (by decide)]; exact b5
end STEPS

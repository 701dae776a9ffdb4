/-! ===== the relation: the class's dairy, the reference's row ===== -/
def RD (D : DS) (z : Nat → Int32) : Prop :=
  MJ z D.2.2.2.2.2.1 ∧ (∀ d, d < D.2.2.2.2.2.1 → z (1 + d) = D.1 d ∧ z (21 + d) = D.2.1 d) ∧ (∀ m, m < 6 → z (81 + m) = D.2.2.1 m) ∧
  z 87 = D.2.2.2.2.2.2.1 ∧ z 88 = D.2.2.2.2.2.2.2.1 ∧ z 89 = D.2.2.2.2.2.2.2.2.1 ∧ z 90 = D.2.2.2.2.2.2.2.2.2 ∧
  (¬ z 87 = 0 → ∀ d, d < D.2.2.2.2.2.1 → z (41 + d) = D.2.2.2.1 d ∧ z (61 + d) = D.2.2.2.2.1 d)
theorem RD.rs {D : DS} {z : Nat → Int32} (h : RD D z) : RS D z :=
  ⟨h.1.mi, fun d hd => by rw [← (h.2.1 d hd).1]; exact h.1.2.2.2.2.1 d hd, h.2.1, h.2.2.1⟩
theorem RD.n20 {D : DS} {z : Nat → Int32} (h : RD D z) : D.2.2.2.2.2.1 ≤ 20 := h.1.2.1
theorem RD.same {D : DS} {z w : Nat → Int32} (h : RD D z) (he : ∀ j, j < 91 → w j = z j) : RD D w := by
  obtain ⟨P, O, W, N, B, n, st, tk, br, ms⟩ := D
  obtain ⟨hJ, hPO, hW, e7, e8, e9, e0, hNB⟩ := h
  dsimp only at hJ hPO hW e7 e8 e9 e0 hNB
  have hn := hJ.2.1
  refine ⟨hJ.counts fun j hj => he j (by omega), fun d hd => ?_, fun m hm => ?_, ?_, ?_, ?_, ?_, fun h9 d hd => ?_⟩
  · have hd' : d < n := hd
    rw [he _ (by omega), he _ (by omega)]; exact hPO d hd
  · rw [he _ (by omega)]; exact hW m hm
  · rw [he _ (by omega)]; exact e7
  · rw [he _ (by omega)]; exact e8
  · rw [he _ (by omega)]; exact e9
  · rw [he _ (by omega)]; exact e0
  · have hd' : d < n := hd
    rw [he _ (by omega)] at h9
    rw [he _ (by omega), he _ (by omega)]; exact hNB h9 d hd
theorem RD.copy {D E : DS} {z : Nat → Int32} (h : RD E z) : RD (dCopy D E) z := by
  obtain ⟨P, O, W, N, B, n, st, tk, br, ms⟩ := E
  obtain ⟨hJ, hPO, hW, e7, e8, e9, e0, hNB⟩ := h
  dsimp only at hJ hPO hW e7 e8 e9 e0 hNB
  have hn := hJ.2.1
  refine ⟨hJ, fun d hd => ?_, fun m hm => ?_, e7, e8, e9, e0, fun h9 d hd => ?_⟩
  · have hd' : d < n := hd
    show z (1 + d) = rowCopy D.1 P 20 d ∧ z (21 + d) = rowCopy D.2.1 O 20 d
    rw [copy_at, copy_at, if_pos (by omega), if_pos (by omega)]; exact hPO d hd
  · show z (81 + m) = rowCopy D.2.2.1 W 6 m
    rw [copy_at, if_pos hm]; exact hW m hm
  · have hd' : d < n := hd
    show z (41 + d) = rowCopy D.2.2.2.1 N 20 d ∧ z (61 + d) = rowCopy D.2.2.2.2.1 B 20 d
    rw [copy_at, copy_at, if_pos (by omega), if_pos (by omega)]; exact hNB h9 d hd
theorem RD.add {D : DS} {z : Nat → Int32} {p : Nat} (h : RD D z) (h0 : z 87 = 0) (hn : D.2.2.2.2.2.1 < 20) (hp : 1 ≤ p ∧ p ≤ 9) :
    RD (dAdd D (nI p)) (upd (upd (upd z (1 + D.2.2.2.2.2.1) (nI p)) (21 + D.2.2.2.2.2.1) (-1)) 0 (nI (D.2.2.2.2.2.1 + 1))) := by
  obtain ⟨P, O, W, N, B, n, st, tk, br, ms⟩ := D
  obtain ⟨hJ, hPO, hW, e7, e8, e9, e0, hNB⟩ := h
  dsimp only at hJ hPO hW e7 e8 e9 e0 hNB hn ⊢
  have hk : ∀ j, j ≠ 0 → j ≠ 1 + n → j ≠ 21 + n → upd (upd (upd z (1 + n) (nI p)) (21 + n) (-1)) 0 (nI (n + 1)) j = z j := fun j h1 h2 h3 => by rw [pk_un h1, pk_un h3, pk_un h2]
  refine ⟨hJ.add h0 hn hp, fun d hd => ?_, fun m hm => ?_, ?_, ?_, ?_, ?_, fun h9 => ?_⟩
  · have hd' : d < n + 1 := hd
    show upd (upd (upd z (1 + n) (nI p)) (21 + n) (-1)) 0 (nI (n + 1)) (1 + d) = upd P n (nI p) d ∧ upd (upd (upd z (1 + n) (nI p)) (21 + n) (-1)) 0 (nI (n + 1)) (21 + d) = upd O n (-1) d
    by_cases e : d = n
    · subst e
      rw [pk_un (by omega), pk_un (by omega), pk_us, pk_us, pk_un (by omega), pk_us, pk_us]
      exact ⟨rfl, rfl⟩
    · rw [hk _ (by omega) (by omega) (by omega), hk _ (by omega) (by omega) (by omega), pk_un e, pk_un e]
      exact hPO d (by omega)
  · rw [hk _ (by omega) (by omega) (by omega)]; exact hW m hm
  · rw [hk _ (by omega) (by omega) (by omega)]; exact e7
  · rw [hk _ (by omega) (by omega) (by omega)]; exact e8
  · rw [hk _ (by omega) (by omega) (by omega)]; exact e9
  · rw [hk _ (by omega) (by omega) (by omega)]; exact e0
  · rw [hk _ (by omega) (by omega) (by omega)] at h9; exact absurd h0 h9
theorem gap_at {f : Nat → Int32} {n k : Nat} : ∀ t, k + t ≤ n → ∀ j, itr t (fun t g => upd g (k + t) (g (k + t + 1))) f j = if k ≤ j ∧ j < k + t then f (j + 1) else f j := by
  intro t
  induction t with
  | zero => intro _ j; rw [if_neg (by omega)]; rfl
  | succ t ih =>
    intro ht j
    show upd (itr t (fun t g => upd g (k + t) (g (k + t + 1))) f) (k + t) (itr t (fun t g => upd g (k + t) (g (k + t + 1))) f (k + t + 1)) j = _
    by_cases e : j = k + t
    · subst e; rw [pk_us, ih (by omega), if_neg (by omega), if_pos (by omega)]
    · rw [pk_un e, ih (by omega)]
      by_cases h1 : k ≤ j ∧ j < k + t
      · rw [if_pos h1, if_pos (by omega)]
      · rw [if_neg h1, if_neg (by omega)]
theorem rowGap_at {f : Nat → Int32} {n k : Nat} (hk : k < n) (j : Nat) : rowGap f n k j = if k ≤ j ∧ j < n - 1 then f (j + 1) else f j := by
  unfold rowGap
  rw [gap_at (n := n) (n - 1 - k) (by omega)]
  by_cases h1 : k ≤ j ∧ j < n - 1
  · rw [if_pos h1, if_pos (by omega)]
  · rw [if_neg h1, if_neg (by omega)]
theorem RD.rem {D : DS} {z : Nat → Int32} {k : Nat} (h : RD D z) (h0 : z 87 = 0) (hk : k < D.2.2.2.2.2.1) : RD (dRem D k) (rmAll z D.2.2.2.2.2.1 k) := by
  obtain ⟨P, O, W, N, B, n, st, tk, br, ms⟩ := D
  obtain ⟨hJ, hPO, hW, e7, e8, e9, e0, hNB⟩ := h
  dsimp only at hJ hPO hW e7 e8 e9 e0 hNB hk ⊢
  have hn := hJ.2.1
  have hz : ∀ j, 81 ≤ j → rmAll z n k j = z j := fun j hj => by rw [rmAll_at hn hk, if_neg (by omega), if_neg (by omega)]
  refine ⟨hJ.rem h0 hk, fun d hd => ?_, fun m hm => ?_, ?_, ?_, ?_, ?_, fun h9 => ?_⟩
  · have hd' : d < n - 1 := hd
    show rmAll z n k (1 + d) = rowGap P 20 k d ∧ rmAll z n k (21 + d) = rowGap O 20 k d
    by_cases h1 : k ≤ d
    · have a1 : rmAll z n k (1 + d) = z (1 + d + 1) := by rw [rmAll_at hn hk, if_neg (by omega), if_pos (by omega)]
      have a2 : rmAll z n k (21 + d) = z (21 + d + 1) := by rw [rmAll_at hn hk, if_neg (by omega), if_pos (by omega)]
      rw [a1, a2, rowGap_at (by omega), rowGap_at (by omega), if_pos (by omega), if_pos (by omega)]
      exact hPO (d + 1) (by omega)
    · have a1 : rmAll z n k (1 + d) = z (1 + d) := by rw [rmAll_at hn hk, if_neg (by omega), if_neg (by omega)]
      have a2 : rmAll z n k (21 + d) = z (21 + d) := by rw [rmAll_at hn hk, if_neg (by omega), if_neg (by omega)]
      rw [a1, a2, rowGap_at (by omega), rowGap_at (by omega), if_neg (by omega), if_neg (by omega)]
      exact hPO d (by omega)
  · rw [hz _ (by omega)]; exact hW m hm
  · rw [hz _ (by omega)]; exact e7
  · rw [hz _ (by omega)]; exact e8
  · rw [hz _ (by omega)]; exact e9
  · rw [hz _ (by omega)]; exact e0
  · rw [hz _ (by omega)] at h9; exact absurd h0 h9
theorem RD.setp {D : DS} {z : Nat → Int32} {k p : Nat} (h : RD D z) (hk : k < D.2.2.2.2.2.1) (hp : 1 ≤ p ∧ p ≤ 9) : RD (dPts D k (nI p)) (upd z (1 + k) (nI p)) := by
  obtain ⟨P, O, W, N, B, n, st, tk, br, ms⟩ := D
  obtain ⟨hJ, hPO, hW, e7, e8, e9, e0, hNB⟩ := h
  dsimp only at hJ hPO hW e7 e8 e9 e0 hNB hk ⊢
  have hn := hJ.2.1
  have hz : ∀ j, j ≠ 1 + k → upd z (1 + k) (nI p) j = z j := fun j hj => pk_un hj
  refine ⟨hJ.setp hk hp, fun d hd => ?_, fun m hm => ?_, ?_, ?_, ?_, ?_, fun h9 d hd => ?_⟩
  · have hd' : d < n := hd
    show upd z (1 + k) (nI p) (1 + d) = upd P k (nI p) d ∧ upd z (1 + k) (nI p) (21 + d) = O d
    rw [hz (21 + d) (by omega)]
    by_cases e : d = k
    · subst e; rw [pk_us, pk_us]; exact ⟨rfl, (hPO d hd).2⟩
    · rw [pk_un (by omega), pk_un e]; exact hPO d hd
  · rw [hz _ (by omega)]; exact hW m hm
  · rw [hz _ (by omega)]; exact e7
  · rw [hz _ (by omega)]; exact e8
  · rw [hz _ (by omega)]; exact e9
  · rw [hz _ (by omega)]; exact e0
  · have hd' : d < n := hd
    rw [hz _ (by omega)] at h9
    rw [hz _ (by omega), hz _ (by omega)]; exact hNB h9 d hd
theorem RD.come {D : DS} {z : Nat → Int32} {k : Nat} (h : RD D z) (h0 : z 87 = 0) (hk : k < 6) : RD (dWel D k) (upd z (81 + k) 1) := by
  obtain ⟨P, O, W, N, B, n, st, tk, br, ms⟩ := D
  obtain ⟨hJ, hPO, hW, e7, e8, e9, e0, hNB⟩ := h
  dsimp only at hJ hPO hW e7 e8 e9 e0 hNB ⊢
  have hn := hJ.2.1
  have hz : ∀ j, j ≠ 81 + k → upd z (81 + k) 1 j = z j := fun j hj => pk_un hj
  refine ⟨hJ.come h0 hk, fun d hd => ?_, fun m hm => ?_, ?_, ?_, ?_, ?_, fun h9 => ?_⟩
  · have hd' : d < n := hd
    rw [hz _ (by omega), hz _ (by omega)]; exact hPO d hd
  · show upd z (81 + k) 1 (81 + m) = upd W k 1 m
    by_cases e : m = k
    · subst e; rw [pk_us, pk_us]
    · rw [pk_un (by omega), pk_un e]; exact hW m hm
  · rw [hz _ (by omega)]; exact e7
  · rw [hz _ (by omega)]; exact e8
  · rw [hz _ (by omega)]; exact e9
  · rw [hz _ (by omega)]; exact e0
  · rw [hz _ (by omega)] at h9; exact absurd h0 h9
theorem ds_at (y : Int32) (O : Nat → Int32) : ∀ i, (∀ d, (itr i (dsStep y) (O, 0)).1 d = if d < i ∧ O d = y then -1 else O d) ∧ (itr i (dsStep y) (O, 0)).2 = rSz O i y := by
  intro i
  induction i with
  | zero => exact ⟨fun d => by rw [if_neg (by omega)]; rfl, rfl⟩
  | succ i ih =>
    obtain ⟨h1, h2⟩ := ih
    show (∀ d, (dsStep y i (itr i (dsStep y) (O, 0))).1 d = _) ∧ (dsStep y i (itr i (dsStep y) (O, 0))).2 = _
    rw [rSz_s]
    generalize itr i (dsStep y) (O, 0) = q at h1 h2
    have hq : q.1 i = O i := by rw [h1 i, if_neg (by omega)]
    unfold dsStep
    rw [hq]
    by_cases e : O i = y
    · rw [if_pos e, if_pos e]
      refine ⟨fun d => ?_, by rw [← h2]⟩
      show upd q.1 i (-1) d = _
      by_cases ed : d = i
      · subst ed; rw [pk_us, if_pos ⟨by omega, e⟩]
      · rw [pk_un ed, h1 d]
        by_cases c : d < i ∧ O d = y
        · rw [if_pos c, if_pos ⟨by omega, c.2⟩]
        · rw [if_neg c, if_neg fun h9 => c ⟨by omega, h9.2⟩]
    · rw [if_neg e, if_neg e]
      refine ⟨fun d => ?_, h2⟩
      rw [h1 d]
      by_cases c : d < i ∧ O d = y
      · rw [if_pos c, if_pos ⟨by omega, c.2⟩]
      · rw [if_neg c, if_neg fun h9 => c ⟨by
          have : d ≠ i := fun h8 => by subst h8; exact e h9.2
          omega, h9.2⟩]
theorem RS.leave {D : DS} {z : Nat → Int32} {k : Nat} (h : RS D z) (hk : k < 6) : RS (dDis D k) (dlAll D.2.2.2.2.2.1 (nI k) (upd z (81 + k) 0)) := by
  obtain ⟨P, O, W, N, B, n, u⟩ := D
  obtain ⟨hM, hp, hPO, hW⟩ := h
  dsimp only at hM hp hPO hW ⊢
  have hn := hM.2.1
  refine ⟨MI_leave hM hk, hp, fun d hd => ?_, fun m hm => ?_⟩
  · have hd' : d < n := hd
    show itr n (dlStep (nI k)) (upd z (81 + k) 0) (1 + d) = P d ∧ itr n (dlStep (nI k)) (upd z (81 + k) 0) (21 + d) = (itr n (dsStep (nI k)) (O, 0)).1 d
    rw [dl_at, dl_at, if_neg (by omega), pk_un (by omega), pk_un (by omega), (ds_at (nI k) O n).1 d, (hPO d hd).2]
    refine ⟨(hPO d hd).1, ?_⟩
    by_cases c : O d = nI k
    · rw [if_pos ⟨by omega, by omega, c⟩, if_pos ⟨hd', c⟩]
    · rw [if_neg fun h9 => c h9.2.2, if_neg fun h9 => c h9.2]
  · show itr n (dlStep (nI k)) (upd z (81 + k) 0) (81 + m) = upd W k 0 m
    rw [dl_at, if_neg (by omega)]
    by_cases e : m = k
    · subst e; rw [pk_us, pk_us]
    · rw [pk_un (by omega), pk_un e]; exact hW m hm
theorem RS.come {D : DS} {z : Nat → Int32} {k : Nat} (h : RS D z) (hk : k < 6) : RS (dWel D k) (upd z (81 + k) 1) := by
  obtain ⟨P, O, W, N, B, n, u⟩ := D
  obtain ⟨hM, hp, hPO, hW⟩ := h
  dsimp only at hM hp hPO hW ⊢
  have hn := hM.2.1
  refine ⟨MI_work hM hk (Or.inr rfl), hp, fun d hd => ?_, fun m hm => ?_⟩
  · have hd' : d < n := hd
    rw [pk_un (by omega), pk_un (by omega)]; exact hPO d hd
  · show upd z (81 + k) 1 (81 + m) = upd W k 1 m
    by_cases e : m = k
    · subst e; rw [pk_us, pk_us]
    · rw [pk_un (by omega), pk_un e]; exact hW m hm
theorem RS.copy {D E : DS} {z : Nat → Int32} (h : RS E z) : RS (dCopy D E) z := by
  obtain ⟨P, O, W, N, B, n, u⟩ := E
  obtain ⟨hM, hp, hPO, hW⟩ := h
  dsimp only at hM hp hPO hW ⊢
  have hn := hM.2.1
  refine ⟨hM, fun d hd => ?_, fun d hd => ?_, fun m hm => ?_⟩
  · have hd' : d < n := hd
    show ∃ p, 1 ≤ p ∧ p ≤ 9 ∧ rowCopy D.1 P 20 d = nI p
    rw [copy_at, if_pos (by omega)]; exact hp d hd
  · have hd' : d < n := hd
    show z (1 + d) = rowCopy D.1 P 20 d ∧ z (21 + d) = rowCopy D.2.1 O 20 d
    rw [copy_at, copy_at, if_pos (by omega), if_pos (by omega)]; exact hPO d hd
  · show z (81 + m) = rowCopy D.2.2.1 W 6 m
    rw [copy_at, if_pos hm]; exact hW m hm
theorem RD.leave {D : DS} {z : Nat → Int32} {k : Nat} (h : RD D z) (h0 : z 87 = 0) (hk : k < 6) : RD (dDis D k) (dlAll D.2.2.2.2.2.1 (nI k) (upd z (81 + k) 0)) := by
  have hR := h.rs.leave hk
  obtain ⟨P, O, W, N, B, n, st, tk, br, ms⟩ := D
  obtain ⟨hJ, hPO, hW, e7, e8, e9, e0, hNB⟩ := h
  dsimp only at hJ hPO hW e7 e8 e9 e0 hNB hR ⊢
  have hn := hJ.2.1
  have hz : ∀ j, 87 ≤ j → dlAll n (nI k) (upd z (81 + k) 0) j = z j := fun j hj => by
    show itr n (dlStep (nI k)) (upd z (81 + k) 0) j = z j
    rw [dl_at, if_neg (by omega), pk_un (by omega)]
  refine ⟨hJ.leave h0 hk, hR.2.2.1, hR.2.2.2, ?_, ?_, ?_, ?_, fun h9 => ?_⟩
  · rw [hz _ (by omega)]; exact e7
  · rw [hz _ (by omega)]; exact e8
  · rw [hz _ (by omega)]; exact e9
  · rw [hz _ (by omega)]; exact e0
  · rw [hz _ (by omega)] at h9; exact absurd h0 h9

/-! ===== the relation: sharing out, handing over, deliveries ===== -/
theorem RD.plan {D : DS} {S : SS} {M : MS} (h : RD D M.2.1) (h0 : M.2.1 87 = 0) : RD (mpD S D) (mDoPlan M D.2.2.2.2.2.1).2.1 := by
  have hJp := h.1.plan h0
  have hout := share_out (S := S) (M := M) h.rs
  have hres := share_res (S := S) (M := M) h.rs
  obtain ⟨P, O, W, N, B, n, st, tk, br, ms⟩ := D
  obtain ⟨hJ, hPO, hW, e7, e8, e9, e0, hNB⟩ := h
  dsimp only at hJ hPO hW e7 e8 e9 e0 hNB hout hres hJp ⊢
  have hn := hJ.2.1
  have ez : (mDoPlan M n).2.1 = upd (if mShR M n ≤ 0 then M.2.1 else itr n (dpStep (mSh M n).2.2.2.2.2.2.1) M.2.1) 87 (if mShR M n ≤ 0 then 0 else 1) := rfl
  rw [ez] at hJp ⊢
  unfold mpD
  rw [hres]
  by_cases c : mShR M n ≤ 0
  · rw [if_pos c, if_pos c, if_pos c, upd_same h0]
    exact ⟨hJ, hPO, hW, e7, e8, e9, e0, hNB⟩
  · rw [if_neg c, if_neg c] at hJp
    rw [if_neg c, if_neg c, if_neg c]
    have hz : ∀ j, (j < 41 ∨ 81 ≤ j) → j ≠ 87 → upd (itr n (dpStep (mSh M n).2.2.2.2.2.2.1) M.2.1) 87 1 j = M.2.1 j := fun j hj h7 => by
      rw [pk_un h7, dp_at n hn, if_neg (by omega), if_neg (by omega)]
    refine ⟨hJp, fun d hd => ?_, fun m hm => ?_, pk_us, ?_, ?_, ?_, fun h9 d hd => ?_⟩
    · have hd' : d < n := hd
      rw [hz _ (by omega) (by omega), hz _ (by omega) (by omega)]; exact hPO d hd
    · rw [hz _ (by omega) (by omega)]; exact hW m hm
    · rw [hz _ (by omega) (by omega)]; exact e8
    · rw [hz _ (by omega) (by omega)]; exact e9
    · rw [hz _ (by omega) (by omega)]; exact e0
    · have hd' : d < n := hd
      show upd (itr n (dpStep (mSh M n).2.2.2.2.2.2.1) M.2.1) 87 1 (41 + d) = rowCopy N (shOut S (P, O, W, N, B, n, st, tk, br, ms)).1 n d ∧ upd (itr n (dpStep (mSh M n).2.2.2.2.2.2.1) M.2.1) 87 1 (61 + d) = rowCopy B O 20 d
      rw [pk_un (by omega), pk_un (by omega), dp_at n hn, dp_at n hn, if_pos (by omega), if_neg (by omega), if_pos (by omega), copy_at, copy_at, if_pos hd', if_pos (by omega), hout d hd', Nat.add_sub_cancel_left]
      refine ⟨rfl, ?_⟩
      rw [show 61 + d - 40 = 21 + d by omega]
      exact (hPO d hd).2
theorem mv_at (N O : Nat → Int32) : ∀ i d, (itr i (mvStep N) (O, 0)).1 d = if d < i then N d else O d := by
  intro i
  induction i with
  | zero => intro d; rw [if_neg (by omega)]; rfl
  | succ i ih =>
    intro d
    show (mvStep N i (itr i (mvStep N) (O, 0))).1 d = _
    generalize itr i (mvStep N) (O, 0) = q at ih
    unfold mvStep
    by_cases c : q.1 i = N i
    · rw [if_pos c]
      by_cases e : d = i
      · subst e; rw [if_pos (by omega)]; exact c
      · rw [ih d]
        by_cases h1 : d < i
        · rw [if_pos h1, if_pos (by omega)]
        · rw [if_neg h1, if_neg (by omega)]
    · rw [if_neg c]
      show upd q.1 i (N i) d = _
      by_cases e : d = i
      · subst e; rw [pk_us, if_pos (by omega)]
      · rw [pk_un e, ih d]
        by_cases h1 : d < i
        · rw [if_pos h1, if_pos (by omega)]
        · rw [if_neg h1, if_neg (by omega)]
theorem gu_at (N O : Nat → Int32) : ∀ i d, (itr i (guStep N) (O, 0)).1 d = if d < i ∧ ¬ O d = -1 ∧ ¬ O d = N d then -1 else O d := by
  intro i
  induction i with
  | zero => intro d; rw [if_neg (by omega)]; rfl
  | succ i ih =>
    intro d
    show (guStep N i (itr i (guStep N) (O, 0))).1 d = _
    generalize itr i (guStep N) (O, 0) = q at ih
    have hq : q.1 i = O i := by rw [ih i, if_neg (by omega)]
    unfold guStep
    rw [hq]
    have hoff : d ≠ i → q.1 d = if d < i + 1 ∧ ¬ O d = -1 ∧ ¬ O d = N d then -1 else O d := fun hd => by
      rw [ih d]
      by_cases c : d < i ∧ ¬ O d = -1 ∧ ¬ O d = N d
      · rw [if_pos c, if_pos ⟨by omega, c.2⟩]
      · rw [if_neg c, if_neg fun h9 => c ⟨by omega, h9.2⟩]
    by_cases c1 : O i = -1
    · rw [if_pos c1]
      by_cases e : d = i
      · subst e; rw [hq, if_neg fun h9 => h9.2.1 c1]
      · exact hoff e
    · rw [if_neg c1]
      by_cases c2 : O i = N i
      · rw [if_pos c2]
        by_cases e : d = i
        · subst e; rw [hq, if_neg fun h9 => h9.2.2 c2]
        · exact hoff e
      · rw [if_neg c2]
        show upd q.1 i (-1) d = _
        by_cases e : d = i
        · subst e; rw [pk_us, if_pos ⟨by omega, c1, c2⟩]
        · rw [pk_un e]; exact hoff e
theorem neg_owv {z : Nat → Int32} {x : Int32} (h : OWV z x) : x < 0 ↔ x = -1 := by
  rcases h with h | ⟨k, ⟨hk, -⟩, h⟩
  · rw [h]; decide
  · rw [h]
    constructor
    · intro h9; exact absurd h9 (nI_pos (by omega))
    · intro h9; exact absurd h9 (nI_n1' (by omega))
/-- the first step: as many are given up -/
theorem cnt_give {z N O : Nat → Int32} {n : Nat} (hn : n ≤ 20) (h1 : z 87 = 1) (hO : ∀ d, d < n → OWV z (O d)) (hz : ∀ d, d < n → z (21 + d) = O d ∧ z (41 + d) = N d ∧ z (61 + d) = O d) : ∀ i, i ≤ n → (itr i (guStep N) (O, 0)).2 = (itr i hoStep (z, 0)).2 := by
  intro i
  induction i with
  | zero => intro _; rfl
  | succ i ih =>
    intro hi
    have e := ih (by omega)
    have g1 := gu_at N O i i
    have g2 := ho_at (z := z) i (by omega)
    show (guStep N i (itr i (guStep N) (O, 0))).2 = (hoStep i (itr i hoStep (z, 0))).2
    generalize itr i (guStep N) (O, 0) = q at e g1
    generalize itr i hoStep (z, 0) = w at e g2
    have a1 : q.1 i = O i := by rw [g1, if_neg (by omega)]
    obtain ⟨z1, z2, z3⟩ := hz i (by omega)
    have b1 : w.1 (21 + i) = O i := by rw [g2, if_neg (by omega), z1]
    have b2 : w.1 (41 + i) = N i := by rw [g2, if_neg (by omega), z2]
    have b3 : w.1 (61 + i) = O i := by rw [g2, if_neg (by omega), z3]
    have b4 : w.1 87 = 1 := by rw [g2, if_neg (by omega), h1]
    unfold guStep hoStep
    rw [a1, b1, b2, b3, b4]
    by_cases c1 : O i = -1
    · rw [if_pos c1]
      by_cases c2 : N i = O i
      · rw [if_pos c2]; exact e
      · rw [if_neg c2]
        show q.2 = if (1 : Int32) = 2 then w.2 + 1 else if O i < 0 then w.2 else w.2 + 1
        rw [if_neg (by decide), if_pos ((neg_owv (hO i (by omega))).mpr c1)]; exact e
    · rw [if_neg c1]
      by_cases c2 : O i = N i
      · rw [if_pos c2, if_pos c2.symm]; exact e
      · rw [if_neg c2, if_neg fun h9 => c2 h9.symm]
        show q.2 + 1 = if (1 : Int32) = 2 then w.2 + 1 else if O i < 0 then w.2 else w.2 + 1
        rw [if_neg (by decide), if_neg fun h9 => c1 ((neg_owv (hO i (by omega))).mp h9), e]
/-- the second step: as many are taken over -/
theorem cnt_take {z N O B : Nat → Int32} {n : Nat} (hn : n ≤ 20) (h1 : z 87 = 2) (hN : ∀ d, d < n → ¬ N d = -1) (hO : ∀ d, d < n → O d = if N d = B d then B d else -1) (hz : ∀ d, d < n → z (41 + d) = N d ∧ z (61 + d) = B d) : ∀ i, i ≤ n → (itr i (mvStep N) (O, 0)).2 = (itr i hoStep (z, 0)).2 := by
  intro i
  induction i with
  | zero => intro _; rfl
  | succ i ih =>
    intro hi
    have e := ih (by omega)
    have g1 := mv_at N O i i
    have g2 := ho_at (z := z) i (by omega)
    show (mvStep N i (itr i (mvStep N) (O, 0))).2 = (hoStep i (itr i hoStep (z, 0))).2
    generalize itr i (mvStep N) (O, 0) = q at e g1
    generalize itr i hoStep (z, 0) = w at e g2
    have a1 : q.1 i = O i := by rw [g1, if_neg (by omega)]
    obtain ⟨z2, z3⟩ := hz i (by omega)
    have b2 : w.1 (41 + i) = N i := by rw [g2, if_neg (by omega), z2]
    have b3 : w.1 (61 + i) = B i := by rw [g2, if_neg (by omega), z3]
    have b4 : w.1 87 = 2 := by rw [g2, if_neg (by omega), h1]
    unfold mvStep hoStep
    rw [a1, b2, b3, b4, hO i (by omega)]
    by_cases c : N i = B i
    · rw [if_pos c, if_pos c.symm, if_pos c]; exact e
    · rw [if_neg c, if_neg fun h9 => hN i (by omega) h9.symm, if_neg c]
      show q.2 + 1 = if (2 : Int32) = 2 then w.2 + 1 else if w.1 (21 + i) < 0 then w.2 else w.2 + 1
      rw [if_pos rfl, e]
theorem hoZ_at {z : Nat → Int32} {n : Nat} (hn : n ≤ 20) (j : Nat) : hoZ z n j = if j = 87 then (if z 87 = 2 then 0 else 2) else if j = 88 then z 88 + (if z 87 = 2 then nI (hoAll z n).2 else 0) else (hoAll z n).1 j := by
  have h7 : (hoAll z n).1 87 = z 87 := by unfold hoAll; rw [ho_at n hn, if_neg (by omega)]
  have h8 : (hoAll z n).1 88 = z 88 := by unfold hoAll; rw [ho_at n hn, if_neg (by omega)]
  unfold hoZ
  rw [h7, h8]
  by_cases c : j = 87
  · subst c; rw [pk_us, if_pos rfl, pk_un (by omega), h7]
  · rw [pk_un c, if_neg c]
    by_cases c2 : j = 88
    · subst c2; rw [pk_us, if_pos rfl]
    · rw [pk_un c2, if_neg c2]
theorem RD.hand {D : DS} {z : Nat → Int32} (h : RD D z) (h0 : ¬ z 87 = 0) : RD (dNext D) (hoZ z D.2.2.2.2.2.1) ∧ dNextR D = (hoAll z D.2.2.2.2.2.1).2 := by
  obtain ⟨P, O, W, N, B, n, st, tk, br, ms⟩ := D
  obtain ⟨hJ, hPO, hW, e7, e8, e9, e0, hNB⟩ := h
  dsimp only at hJ hPO hW e7 e8 e9 e0 hNB ⊢
  have hn := hJ.2.1
  have hO : ∀ d, d < n → OWV z (O d) := fun d hd => by rw [← (hPO d hd).2]; exact hJ.2.2.2.1 d hd
  have hnb := hNB h0
  have hJh := hJ.hand h0
  rcases hJ.2.2.2.2.2 with h1 | ⟨h1, hH⟩ | ⟨h1, hH⟩
  · exact absurd h1 h0
  · have est : st = 1 := e7.symm.trans h1
    subst est
    have hzz : ∀ d, d < n → z (21 + d) = O d ∧ z (41 + d) = N d ∧ z (61 + d) = O d := fun d hd => ⟨(hPO d hd).2, (hnb d hd).1, by rw [← (hH d hd).2]; exact (hPO d hd).2⟩
    have hcnt : (guAll N O n).2 = (hoAll z n).2 := cnt_give hn h1 hO hzz n (Nat.le_refl _)
    have eD : dNext (P, O, W, N, B, n, 1, tk, br, ms) = (P, (guAll N O n).1, W, N, B, n, 2, tk, br, ms) := if_pos rfl
    have eR : dNextR (P, O, W, N, B, n, 1, tk, br, ms) = (guAll N O n).2 := if_pos rfl
    rw [eD, eR]
    refine ⟨⟨hJh, fun d hd => ?_, fun m hm => ?_, ?_, ?_, ?_, ?_, fun h9 d hd => ?_⟩, hcnt⟩
    · have hd' : d < n := hd
      show hoZ z n (1 + d) = P d ∧ hoZ z n (21 + d) = (itr n (guStep N) (O, 0)).1 d
      rw [hoZ_at hn, hoZ_at hn, if_neg (by omega), if_neg (by omega), if_neg (by omega), if_neg (by omega), gu_at N O n d]
      unfold hoAll
      rw [ho_at n hn, ho_at n hn, if_neg (by omega), show 21 + d + 20 = 41 + d by omega, show 21 + d + 40 = 61 + d by omega, (hzz d hd').1, (hzz d hd').2.1, (hzz d hd').2.2, h1]
      refine ⟨(hPO d hd).1, ?_⟩
      by_cases c1 : O d = N d
      · rw [if_neg fun h9 => h9.2.2 c1.symm, if_neg fun h9 => h9.2.2 c1]
      · rw [if_pos ⟨by omega, by omega, fun h9 => c1 h9.symm⟩, if_neg (by decide)]
        by_cases c2 : O d = -1
        · rw [if_neg fun h9 => h9.2.1 c2, c2]
        · rw [if_pos ⟨hd', c2, c1⟩]
    · rw [hoZ_at hn, if_neg (by omega), if_neg (by omega)]; unfold hoAll; rw [ho_at n hn, if_neg (by omega)]; exact hW m hm
    · rw [hoZ_at hn, if_pos rfl, h1, if_neg (by decide)]
    · rw [hoZ_at hn, if_neg (by omega), if_pos rfl, h1, if_neg (by decide), Int32.add_zero]; exact e8
    · rw [hoZ_at hn, if_neg (by omega), if_neg (by omega)]; unfold hoAll; rw [ho_at n hn, if_neg (by omega)]; exact e9
    · rw [hoZ_at hn, if_neg (by omega), if_neg (by omega)]; unfold hoAll; rw [ho_at n hn, if_neg (by omega)]; exact e0
    · have hd' : d < n := hd
      rw [hoZ_at hn, hoZ_at hn, if_neg (by omega), if_neg (by omega), if_neg (by omega), if_neg (by omega)]
      unfold hoAll
      rw [ho_at n hn, ho_at n hn, if_neg (by omega), if_neg (by omega)]
      exact hnb d hd'
  · have est : st = 2 := e7.symm.trans h1
    subst est
    have hN : ∀ d, d < n → ¬ N d = -1 := fun d hd => by
      obtain ⟨⟨k, ⟨hk, -⟩, e⟩, -⟩ := hH d hd
      rw [← (hnb d hd).1, e]; exact nI_n1' (by omega)
    have hOd : ∀ d, d < n → O d = if N d = B d then B d else -1 := fun d hd => by
      rw [← (hPO d hd).2, (hH d hd).2.2, (hnb d hd).1, (hnb d hd).2]
    have hcnt : (mvAll N O n).2 = (hoAll z n).2 := cnt_take hn h1 hN hOd hnb n (Nat.le_refl _)
    have eD : dNext (P, O, W, N, B, n, 2, tk, br, ms) = (P, (mvAll N O n).1, W, N, B, n, 0, tk + nI (mvAll N O n).2, br, ms) := if_neg (show ¬ (2 : Int32) = 1 by decide)
    have eR : dNextR (P, O, W, N, B, n, 2, tk, br, ms) = (mvAll N O n).2 := if_neg (show ¬ (2 : Int32) = 1 by decide)
    rw [eD, eR]
    refine ⟨⟨hJh, fun d hd => ?_, fun m hm => ?_, ?_, ?_, ?_, ?_, fun h9 d hd => ?_⟩, hcnt⟩
    · have hd' : d < n := hd
      show hoZ z n (1 + d) = P d ∧ hoZ z n (21 + d) = (itr n (mvStep N) (O, 0)).1 d
      rw [hoZ_at hn, hoZ_at hn, if_neg (by omega), if_neg (by omega), if_neg (by omega), if_neg (by omega), mv_at N O n d, if_pos hd']
      unfold hoAll
      rw [ho_at n hn, ho_at n hn, if_neg (by omega), show 21 + d + 20 = 41 + d by omega, show 21 + d + 40 = 61 + d by omega, (hPO d hd').2, (hnb d hd').1, (hnb d hd').2, h1]
      refine ⟨(hPO d hd).1, ?_⟩
      by_cases c1 : N d = B d
      · rw [if_neg fun h9 => h9.2.2 c1, hOd d hd', if_pos c1, c1]
      · rw [if_pos ⟨by omega, by omega, c1⟩, if_pos rfl]
    · rw [hoZ_at hn, if_neg (by omega), if_neg (by omega)]; unfold hoAll; rw [ho_at n hn, if_neg (by omega)]; exact hW m hm
    · rw [hoZ_at hn, if_pos rfl, h1, if_pos rfl]
    · rw [hoZ_at hn, if_neg (by omega), if_pos rfl, h1, if_pos rfl, e8, ← hcnt]
    · rw [hoZ_at hn, if_neg (by omega), if_neg (by omega)]; unfold hoAll; rw [ho_at n hn, if_neg (by omega)]; exact e9
    · rw [hoZ_at hn, if_neg (by omega), if_neg (by omega)]; unfold hoAll; rw [ho_at n hn, if_neg (by omega)]; exact e0
    · rw [hoZ_at hn, if_pos rfl, h1, if_pos rfl] at h9; exact absurd rfl h9
theorem cnt_off {z B O : Nat → Int32} {n : Nat} (hn : n ≤ 20) (hz : ∀ d, d < n → z (21 + d) = O d ∧ z (61 + d) = B d) : ∀ i, i ≤ n → (itr i (mvStep B) (O, 0)).2 = (itr i coStep (z, 0)).2 := by
  intro i
  induction i with
  | zero => intro _; rfl
  | succ i ih =>
    intro hi
    have e := ih (by omega)
    have g1 := mv_at B O i i
    have g2 := co_at (z := z) i (by omega)
    show (mvStep B i (itr i (mvStep B) (O, 0))).2 = (coStep i (itr i coStep (z, 0))).2
    generalize itr i (mvStep B) (O, 0) = q at e g1
    generalize itr i coStep (z, 0) = w at e g2
    have a1 : q.1 i = O i := by rw [g1, if_neg (by omega)]
    obtain ⟨z2, z3⟩ := hz i (by omega)
    have b2 : w.1 (21 + i) = O i := by rw [g2, if_neg (by omega), z2]
    have b3 : w.1 (61 + i) = B i := by rw [g2, if_neg (by omega), z3]
    unfold mvStep coStep
    rw [a1, b2, b3]
    by_cases c : O i = B i
    · rw [if_pos c, if_pos c]; exact e
    · rw [if_neg c, if_neg c, ← e]
theorem RD.off {D : DS} {z : Nat → Int32} (h : RD D z) (h0 : ¬ z 87 = 0) : RD (dBack D) (upd (coAll z D.2.2.2.2.2.1).1 87 0) ∧ (mvAll D.2.2.2.2.1 D.2.1 D.2.2.2.2.2.1).2 = (coAll z D.2.2.2.2.2.1).2 := by
  obtain ⟨P, O, W, N, B, n, st, tk, br, ms⟩ := D
  obtain ⟨hJ, hPO, hW, e7, e8, e9, e0, hNB⟩ := h
  dsimp only at hJ hPO hW e7 e8 e9 e0 hNB ⊢
  have hn := hJ.2.1
  have hnb := hNB h0
  have hco : ∀ j, j ≠ 87 → upd (coAll z n).1 87 0 j = if 21 ≤ j ∧ j < 21 + n then z (j + 40) else z j := fun j hj => by
    rw [pk_un hj]; exact co_at n hn j
  refine ⟨⟨hJ.off h0, fun d hd => ?_, fun m hm => ?_, pk_us, ?_, ?_, ?_, fun h9 => absurd pk_us h9⟩, cnt_off hn (fun d hd => ⟨(hPO d hd).2, (hnb d hd).2⟩) n (Nat.le_refl _)⟩
  · have hd' : d < n := hd
    show upd (coAll z n).1 87 0 (1 + d) = P d ∧ upd (coAll z n).1 87 0 (21 + d) = (itr n (mvStep B) (O, 0)).1 d
    rw [hco _ (by omega), hco _ (by omega), if_neg (by omega), if_pos (by omega), mv_at, if_pos hd', show 21 + d + 40 = 61 + d by omega]
    exact ⟨(hPO d hd).1, (hnb d hd').2⟩
  · rw [hco _ (by omega), if_neg (by omega)]; exact hW m hm
  · rw [hco _ (by omega), if_neg (by omega)]; exact e8
  · rw [hco _ (by omega), if_neg (by omega)]; exact e9
  · rw [hco _ (by omega), if_neg (by omega)]; exact e0
theorem bm_dv {z P O : Nat → Int32} {ms : Int32} {n : Nat} (hn : n ≤ 20) (hO : ∀ d, d < n → OWV z (O d)) (hz : ∀ d, d < n → z (1 + d) = P d ∧ z (21 + d) = O d) (h9 : z 90 = ms) :
    ∀ i, i ≤ n → (itr i (bmStep P O) (0, ms)).1 = (itr i dvStep (z, 0)).2 ∧ (itr i (bmStep P O) (0, ms)).2 = (itr i dvStep (z, 0)).1 90 := by
  intro i
  induction i with
  | zero => intro _; exact ⟨rfl, h9.symm⟩
  | succ i ih =>
    intro hi
    obtain ⟨x1, x2⟩ := ih (by omega)
    have g := dv_at (z := z) i
    show (bmStep P O i (itr i (bmStep P O) (0, ms))).1 = (dvStep i (itr i dvStep (z, 0))).2 ∧ (bmStep P O i (itr i (bmStep P O) (0, ms))).2 = (dvStep i (itr i dvStep (z, 0))).1 90
    generalize itr i (bmStep P O) (0, ms) = q at x1 x2
    generalize itr i dvStep (z, 0) = w at x1 x2 g
    obtain ⟨z1, z2⟩ := hz i (by omega)
    have b1 : w.1 (21 + i) = O i := by rw [g _ (by omega), z2]
    have b2 : w.1 (1 + i) = P i := by rw [g _ (by omega), z1]
    unfold bmStep dvStep
    rw [b1, b2]
    by_cases c : O i = -1
    · rw [if_pos c, if_pos ((neg_owv (hO i (by omega))).mpr c), if_pos ((neg_owv (hO i (by omega))).mpr c)]
      show q.1 = w.2 + 0 ∧ q.2 + 1 = upd w.1 90 (w.1 90 + 1) 90
      rw [pk_us, Int32.add_zero, x1, x2]
      exact ⟨rfl, rfl⟩
    · rw [if_neg c, if_neg fun h => c ((neg_owv (hO i (by omega))).mp h), if_neg fun h => c ((neg_owv (hO i (by omega))).mp h)]
      show q.1 + P i = w.2 + P i ∧ q.2 = upd w.1 90 (w.1 90 + 0) 90
      rw [pk_us, Int32.add_zero, x1, x2]
      exact ⟨rfl, rfl⟩
theorem RD.dlv {D : DS} {z : Nat → Int32} (h : RD D z) : RD (dBring D) (upd (dvAll z D.2.2.2.2.2.1).1 89 ((dvAll z D.2.2.2.2.2.1).1 89 + (dvAll z D.2.2.2.2.2.1).2)) ∧ (bmAll D.1 D.2.1 D.2.2.2.2.2.2.2.2.2 D.2.2.2.2.2.1).1 = (dvAll z D.2.2.2.2.2.1).2 := by
  obtain ⟨P, O, W, N, B, n, st, tk, br, ms⟩ := D
  obtain ⟨hJ, hPO, hW, e7, e8, e9, e0, hNB⟩ := h
  dsimp only at hJ hPO hW e7 e8 e9 e0 hNB ⊢
  have hn := hJ.2.1
  have hO : ∀ d, d < n → OWV z (O d) := fun d hd => by rw [← (hPO d hd).2]; exact hJ.2.2.2.1 d hd
  obtain ⟨x1, x2⟩ := bm_dv (P := P) hn hO hPO e0 n (Nat.le_refl _)
  have hz : ∀ j, j ≠ 89 → j ≠ 90 → upd (dvAll z n).1 89 ((dvAll z n).1 89 + (dvAll z n).2) j = z j := fun j h1 h2 => by
    rw [pk_un h1]; exact dv_at n j h2
  refine ⟨⟨hJ.dlv _, fun d hd => ?_, fun m hm => ?_, ?_, ?_, ?_, ?_, fun h9 d hd => ?_⟩, x1⟩
  · have hd' : d < n := hd
    rw [hz _ (by omega) (by omega), hz _ (by omega) (by omega)]; exact hPO d hd
  · rw [hz _ (by omega) (by omega)]; exact hW m hm
  · rw [hz _ (by omega) (by omega)]; exact e7
  · rw [hz _ (by omega) (by omega)]; exact e8
  · show upd (dvAll z n).1 89 ((dvAll z n).1 89 + (dvAll z n).2) 89 = br + (itr n (bmStep P O) (0, ms)).1
    rw [pk_us, x1, show (dvAll z n).1 89 = z 89 from dv_at n 89 (by omega), e9]
    rfl
  · show upd (dvAll z n).1 89 ((dvAll z n).1 89 + (dvAll z n).2) 90 = (itr n (bmStep P O) (0, ms)).2
    rw [pk_un (by omega), x2]
    rfl
  · have hd' : d < n := hd
    rw [hz _ (by omega) (by omega)] at h9
    rw [hz _ (by omega) (by omega), hz _ (by omega) (by omega)]; exact hNB h9 d hd

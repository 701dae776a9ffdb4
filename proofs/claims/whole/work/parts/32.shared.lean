/-! ===== sharing out: both sides alike ===== -/
theorem itr_at {f0 : Nat → Int32} {g : Nat → (Nat → Int32) → Nat → Int32} {v : Nat → Int32} (h : ∀ m f, g m f = upd f m (v m)) : ∀ k m, itr k g f0 m = if m < k then v m else f0 m := by
  intro k
  induction k with
  | zero => intro m; rw [if_neg (Nat.not_lt_zero _)]; rfl
  | succ k ih =>
    intro m
    show g k (itr k g f0) m = _
    rw [h]
    by_cases e : m = k
    · subst e; rw [pk_us, if_pos (by omega)]
    · rw [pk_un e, ih m]
      by_cases h1 : m < k
      · rw [if_pos h1, if_pos (by omega)]
      · rw [if_neg h1, if_neg (by omega)]
theorem fill_at (f : Nat → Int32) (n : Nat) (v : Int32) (j : Nat) : rowFill f n v j = if j < n then v else f j := itr_at (v := fun _ => v) (fun _ _ => rfl) n j
theorem copy_at (f g : Nat → Int32) (n j : Nat) : rowCopy f g n j = if j < n then g j else f j := itr_at (v := g) (fun _ _ => rfl) n j
theorem sr_at {O W f : Nat → Int32} {n m : Nat} (hm : m < 6) : srAll O W n f m = if W m = 1 then nI (rSz O n (nI m)) else -1 := by
  have h := itr_at (f0 := f) (g := srStep O W n) (v := fun m => if W m = 1 then nI (rSz O n (nI m)) else -1) (fun m f => by unfold srStep; split <;> rfl) 6 m
  rw [if_pos hm] at h
  exact h
theorem sq_at {R f : Nat → Int32} {q w m : Nat} (hm : m < 6) : sqAll R q w f m = if R m = -1 then 0 else if w ≤ caAll R m then nI q else nI (q + 1) := by
  have h := itr_at (f0 := f) (g := sqStep R q w) (v := fun m => if R m = -1 then 0 else if w ≤ caAll R m then nI q else nI (q + 1)) (fun m f => by unfold sqStep; split; rfl; split <;> rfl) 6 m
  rw [if_pos hm] at h
  exact h
theorem ca_ah {z R O W : Nat → Int32} {n m : Nat} (hn : n ≤ 20) (hzO : ∀ d, d < n → z (21 + d) = O d) (hzW : ∀ m, m < 6 → z (81 + m) = W m) (hR : ∀ m, m < 6 → R m = if W m = 1 then nI (rSz O n (nI m)) else -1) (hm : m < 6) (hw : W m = 1) : caAll R m = mAhd z n m := by
  refine itr_congr 6 0 fun o ho x => ?_
  have eS : ∀ k, rSz (zO z) n (nI k) = rSz O n (nI k) := fun k => rSz_congr hzO
  have b1 := rSz_le O n (nI m)
  have b2 := rSz_le O n (nI o)
  unfold caStep ahStep
  rw [hR m hm, if_pos hw, hR o ho, hzW o ho]
  by_cases h1 : W o = 1
  · rw [if_pos h1, if_pos h1]
    have ha : mAhead z n o m = true ↔ rSz O n (nI m) < rSz O n (nI o) ∨ (rSz O n (nI o) = rSz O n (nI m) ∧ o < m) := by
      unfold mAhead
      rw [eS, eS, Bool.or_eq_true, Bool.and_eq_true, decide_eq_true_eq, decide_eq_true_eq, decide_eq_true_eq]
    by_cases h2 : rSz O n (nI m) < rSz O n (nI o)
    · rw [if_pos (nI_lt h2 (by omega)), if_pos (ha.mpr (Or.inl h2))]
    · rw [if_neg (nI_nlt (by omega) (by omega))]
      by_cases h3 : rSz O n (nI o) = rSz O n (nI m)
      · rw [if_pos (by rw [h3])]
        by_cases h4 : m ≤ o
        · rw [if_pos h4, if_neg (fun h9 => by have := ha.mp h9; omega)]
        · rw [if_neg h4, if_pos (ha.mpr (Or.inr ⟨h3, by omega⟩))]
      · rw [if_neg (fun h9 => h3 ((nI_eq (by omega) (by omega)).mp h9)), if_neg (fun h9 => by have := ha.mp h9; omega)]
  · rw [if_neg h1, if_neg h1, if_neg (fun h9 => absurd h9 (by
      have h8 : ¬ nI (rSz O n (nI m)) < 0 := nI_pos (by omega)
      intro h7
      exact h8 (Int32.lt_trans h7 (by decide)))), if_neg (nI_n1 (by omega))]
/-- what sharing out looks at -/
def RS (D : DS) (z : Nat → Int32) : Prop :=
  MI z D.2.2.2.2.2.1 ∧ (∀ d, d < D.2.2.2.2.2.1 → ∃ p, 1 ≤ p ∧ p ≤ 9 ∧ D.1 d = nI p) ∧ (∀ d, d < D.2.2.2.2.2.1 → z (1 + d) = D.1 d ∧ z (21 + d) = D.2.1 d) ∧ ∀ m, m < 6 → z (81 + m) = D.2.2.1 m
theorem RS.cw {D : DS} {z : Nat → Int32} (h : RS D z) : cW (zW z) = cW D.2.2.1 :=
  itr_congr 6 0 fun m hm x => by
    have e : zW z m = D.2.2.1 m := h.2.2.2 m hm
    unfold cwStep; rw [e]
theorem RS.sz {D : DS} {z : Nat → Int32} (h : RS D z) (y : Int32) : rSz (zO z) D.2.2.2.2.2.1 y = rSz D.2.1 D.2.2.2.2.2.1 y := rSz_congr fun d hd => (h.2.2.1 d hd).2
theorem RS.ld {D : DS} {z : Nat → Int32} (h : RS D z) (y : Int32) : rLd (zP z) (zO z) D.2.2.2.2.2.1 y = rLd D.1 D.2.1 D.2.2.2.2.2.1 y := rLd_congr (fun d hd => (h.2.2.1 d hd).2) fun d hd => (h.2.2.1 d hd).1
theorem share_made {S : SS} {D : DS} {M : MS} (h : RS D M.2.1) (hw : 0 < cW D.2.2.1) : ∀ x, x < D.2.2.2.2.2.1 → (shMade S D).1 x = (mWl M D.2.2.2.2.2.1).1 x := by
  obtain ⟨P, O, W, N, B, n, u⟩ := D
  have hcw := h.cw
  obtain ⟨hM, hp0, hzPO, hzW⟩ := h
  dsimp only at hM hp0 hzPO hzW hw hcw ⊢
  have hn : n ≤ 20 := hM.2.1
  have hzO : ∀ d, d < n → M.2.1 (21 + d) = O d := fun d hd => (hzPO d hd).2
  have hzP : ∀ d, d < n → M.2.1 (1 + d) = P d := fun d hd => (hzPO d hd).1
  have hO : ∀ d, d < n → O d = -1 ∨ ∃ k, k < 6 ∧ O d = nI k := fun d hd => by rw [← hzO d hd]; exact hM.2.2.2 d hd
  have hp : ∀ d, d < n → 1 ≤ (P d).toNatClampNeg ∧ (P d).toNatClampNeg ≤ 9 ∧ P d = nI (P d).toNatClampNeg := fun d hd => by
    obtain ⟨p, p1, p2, p3⟩ := hp0 d hd
    rw [p3, nI_clamp (by omega)]
    exact ⟨p1, p2, rfl⟩
  generalize hpe : (fun d => (P d).toNatClampNeg) = p
  have hpp : ∀ d, d < n → 1 ≤ p d ∧ p d ≤ 9 ∧ P d = nI (p d) := fun d hd => by rw [← hpe]; exact hp d hd
  -- the order
  have hF := so_ok (f := (shClear S).2.1) hn hpp
  generalize hFe : (soAll P n (shClear S).2.1).1 = F at hF
  -- the quotas
  have hR : ∀ m, m < 6 → srAll O W n (shClear S).2.2.1 m = if W m = 1 then nI (rSz O n (nI m)) else -1 := fun m hm => sr_at hm
  generalize hRe : srAll O W n (shClear S).2.2.1 = R at hR
  have hfq := fun m hm => fq_at M.2.1 n (M.2.2.2.2.2.2.2.1, M.2.2.2.2.2.2.2.2.1, M.2.2.2.2.2.2.2.2.2.1) 6 m hm
  have hq30 : ∀ m, m < 6 → mQuo M.2.1 n m ≤ 30 := fun m hm => by
    unfold mQuo
    have := Nat.div_le_self n (cW (zW M.2.1))
    split
    · split <;> omega
    · omega
  have hQ : ∀ m, m < 6 → sqAll R (n / cW W) (n % cW W) (shClear S).2.2.2.1 m = nI (mQuo M.2.1 n m) := fun m hm => by
    rw [sq_at hm, hR m hm]
    unfold mQuo
    rw [hzW m hm, hcw]
    by_cases h1 : W m = 1
    · have := rSz_le O n (nI m)
      rw [if_pos h1, if_pos h1, if_neg (nI_n1' (by omega)), ca_ah hn hzO hzW hR hm h1]
      by_cases h2 : n % cW W ≤ mAhd M.2.1 n m
      · rw [if_pos h2, if_pos h2]
      · rw [if_neg h2, if_neg h2]
    · rw [if_neg h1, if_neg h1, if_pos rfl]; rfl
  generalize hQe : sqAll R (n / cW W) (n % cW W) (shClear S).2.2.2.1 = Q at hQ
  -- keeping
  have hK := kr_end (P := P) (O := O) (F := F) (Q := Q) (p := p) (qn := mQuo M.2.1 n) hn hO hF (fun m hm => ⟨hQ m hm, hq30 m hm⟩) (z := ((shClear S).1, (shClear S).2.2.2.2.1, (shClear S).2.2.2.2.2))
    (fun x hx => by show rowFill S.1 20 (-1) x = -1; rw [fill_at, if_pos (by omega)]) (fun m hm => ⟨by show rowFill S.2.2.2.2.1 6 0 m = 0; rw [fill_at, if_pos hm], by show rowFill S.2.2.2.2.2 6 0 m = 0; rw [fill_at, if_pos hm]⟩)
  have hL := ko_ok2 (P := P) (O := O) (Q := (mFq M n).1) (p := p) (qn := mQuo M.2.1 n) hn hO hzO (fun d hd => (hpp d hd).2.2) hzP (fun d hd => (hpp d hd).2.1) (fun m hm => ⟨(hfq m hm).1, hq30 m hm⟩) (q := (M.2.2.2.2.2.2.1, (mFq M n).2.1, (mFq M n).2.2)) (fun m hm => (hfq m hm).2) n (Nat.le_refl _)
  have hC : CapI n (mFq M n).1 (mKo M n) := cap_start hM (by rw [hcw]; exact hw)
  have hfin := go_end (P := P) (F := F) (Q := Q) (p := p) (z := M.2.1) (R := (mFq M n).1) hn hF (fun d hd => (hpp d hd).2.2) hzP (fun d hd => (hpp d hd).2.1) (fun m hm => by rw [hQ m hm]; exact (hfq m hm).1.symm) (z0 := krAll P O n F Q ((shClear S).1, (shClear S).2.2.2.2.1, (shClear S).2.2.2.2.2)) hC
    (fun x hx => by rw [hK.1 x hx]; exact (hL.1 x hx).symm) (fun m hm => by
      have e : ∀ y, rSz (krAll P O n F Q ((shClear S).1, (shClear S).2.2.2.2.1, (shClear S).2.2.2.2.2)).1 n y = rSz (mKo M n).1 n y := fun y => rSz_congr fun x hx => by rw [hK.1 x hx]; exact (hL.1 x hx).symm
      have e2 : ∀ y, rLd P (krAll P O n F Q ((shClear S).1, (shClear S).2.2.2.2.1, (shClear S).2.2.2.2.2)).1 n y = rLd P (mKo M n).1 n y := fun y => rLd_congr (fun x hx => by rw [hK.1 x hx]; exact (hL.1 x hx).symm) fun _ _ => rfl
      rw [(hK.2 m hm).1, (hK.2 m hm).2, e, e2]
      exact ⟨((hL.2 m hm).1).symm, ((hL.2 m hm).2).symm⟩)
    (fun x hx => by
      have e : (mKo M n).1 x = keepG O p (mQuo M.2.1 n) n x := hL.1 x hx
      rw [e]
      unfold keepG
      by_cases h1 : keepV O p (mQuo M.2.1 n) n x = true
      · rw [if_pos h1]
        rcases hO x hx with h2 | ⟨k, hk, h2⟩
        · exact Or.inl h2
        · rw [h2]; exact Or.inr (nI_pos' (by omega))
      · rw [if_neg h1]; exact Or.inl rfl)
  intro x hx
  have e : (shMade S (P, O, W, N, B, n, u)).1 = (goAll P n F Q (krAll P O n F Q ((shClear S).1, (shClear S).2.2.2.2.1, (shClear S).2.2.2.2.2))).1 := by
    rw [← hQe, ← hRe, ← hFe]; rfl
  rw [e]
  exact hfin x hx
theorem share_out {S : SS} {D : DS} {M : MS} (h : RS D M.2.1) : ∀ x, x < D.2.2.2.2.2.1 → (shOut S D).1 x = (mSh M D.2.2.2.2.2.1).2.2.2.2.2.2.1 x := by
  intro x hx
  have hn : D.2.2.2.2.2.1 ≤ 20 := h.1.2.1
  by_cases hw : cW D.2.2.1 = 0
  · unfold shOut mSh
    rw [h.cw, if_pos hw, if_pos hw]
    show rowFill S.1 20 (-1) x = itr D.2.2.2.2.2.1 (fun d g => upd g d (-1)) M.2.2.2.2.2.2.1 x
    have h9 := itr_at (f0 := M.2.2.2.2.2.2.1) (g := fun d g => upd g d (-1)) (v := fun _ => -1) (fun _ _ => rfl) D.2.2.2.2.2.1 x
    rw [h9, fill_at, if_pos (by omega), if_pos hx]
  · have hw' : 0 < cW (zW M.2.1) := by rw [h.cw]; omega
    rw [mSh_goal hw']
    unfold shOut
    rw [if_neg hw]
    exact share_made h (by omega) x hx
theorem cc_congr {f g O R : Nat → Int32} {n : Nat} (h : ∀ d, d < n → f d = g d) (h2 : ∀ d, d < n → O d = R d) : ccAll f O n = ccAll g R n :=
  itr_congr n 0 fun d hd x => by unfold ccStep; rw [h d hd, h2 d hd]
theorem share_res {S : SS} {D : DS} {M : MS} (h : RS D M.2.1) : shRes S D = mShR M D.2.2.2.2.2.1 := by
  unfold shRes mShR
  rw [h.cw]
  by_cases hw : cW D.2.2.1 = 0
  · rw [if_pos hw, if_pos hw]
  · rw [if_neg hw, if_neg hw, cc_congr (share_made (S := S) h (by omega)) fun d hd => ((h.2.2.1 d hd).2).symm]
    rfl

/-! ===== the model: after its own rounds are kept, there is room for all others ===== -/
theorem fq_at (z : Nat → Int32) (n : Nat) (s : M3) : ∀ k m, m < k → (itr k (fqStep z n) s).1 m = nI (mQuo z n m) ∧ (itr k (fqStep z n) s).2.1 m = 0 ∧ (itr k (fqStep z n) s).2.2 m = 0
  | 0, m, h => absurd h (Nat.not_lt_zero _)
  | k + 1, m, h => by
    have ih := fun h2 => fq_at z n s k m h2
    show (fqStep z n k (itr k (fqStep z n) s)).1 m = _ ∧ (fqStep z n k (itr k (fqStep z n) s)).2.1 m = _ ∧ (fqStep z n k (itr k (fqStep z n) s)).2.2 m = _
    generalize itr k (fqStep z n) s = t at ih ⊢
    unfold fqStep
    by_cases e : m = k
    · subst e
      exact ⟨pk_us, pk_us, pk_us⟩
    · obtain ⟨h1, h2, h3⟩ := ih (by omega)
      exact ⟨(pk_un e).trans h1, (pk_un e).trans h2, (pk_un e).trans h3⟩
theorem ko_inv {z Q : Nat → Int32} {n : Nat} {s : M3} (hO : ∀ d, d < n → z (21 + d) = -1 ∨ ∃ k, k < 6 ∧ z (21 + d) = nI k) (hn : n ≤ 20) (h0 : ∀ m, m < 6 → s.2.1 m = 0) :
    ∀ i, i ≤ n → ∃ gn : Nat → Nat, (∀ m, m < 6 → (itr i (koStep z n Q) s).2.1 m = nI (gn m)) ∧ undN (itr i (koStep z n Q) s).1 i + sumN 6 gn = i
  | 0, _ => ⟨fun _ => 0, fun m hm => h0 m hm, by show 0 + sumN 6 (fun _ => 0) = 0; decide⟩
  | i + 1, hi => by
    obtain ⟨gn, h1, h2⟩ := ko_inv (Q := Q) hO hn h0 i (by omega)
    show ∃ gn : Nat → Nat, (∀ m, m < 6 → (koStep z n Q i (itr i (koStep z n Q) s)).2.1 m = nI (gn m)) ∧ undN (koStep z n Q i (itr i (koStep z n Q) s)).1 (i + 1) + sumN 6 gn = i + 1
    generalize itr i (koStep z n Q) s = t at h1 h2 ⊢
    have hu : undN (upd t.1 i (-1)) (i + 1) = undN t.1 i + 1 := by
      rw [undN_s, undN_off (Nat.le_refl _), pk_us, if_neg (by decide)]
    unfold koStep
    by_cases c1 : z (21 + i) < 0
    · rw [if_pos c1]
      exact ⟨gn, h1, by dsimp only; omega⟩
    · rw [if_neg c1]
      by_cases c2 : Q (z (21 + i)).toNatClampNeg ≤ nI (kaAll z n (z (21 + i)) i)
      · rw [if_pos c2]
        exact ⟨gn, h1, by dsimp only; omega⟩
      · rw [if_neg c2]
        obtain ⟨k, hk, ek⟩ := own_nat (hO i (by omega)) c1
        rw [ek, nI_clamp (by omega)]
        have hle := sumN_at (f := gn) hk
        have hl := undN_le t.1 i
        refine ⟨fun o => if o = k then gn o + 1 else gn o, fun m hm => ?_, ?_⟩
        · by_cases e : m = k
          · subst e
            show upd t.2.1 m (t.2.1 m + 1) m = nI (if m = m then gn m + 1 else gn m)
            rw [pk_us, if_pos rfl, h1 m hm]; exact nI_add _ 1
          · show upd t.2.1 k (t.2.1 k + 1) m = nI (if m = k then gn m + 1 else gn m)
            rw [pk_un e, if_neg e, h1 m hm]
        · have hs : sumN 6 (fun o => if o = k then gn o + 1 else gn o) = sumN 6 gn + 1 := sumN_inc hk (by rw [if_pos rfl]) (fun o _ ho => by rw [if_neg ho])
          have hg : undN (upd (upd t.1 i (-1)) i (nI k)) (i + 1) = undN t.1 i := by
            rw [undN_s, undN_off (Nat.le_refl _), undN_off (Nat.le_refl _), pk_us, if_pos (nI_pos' (by omega))]
          show undN (upd (upd t.1 i (-1)) i (nI k)) (i + 1) + sumN 6 (fun o => if o = k then gn o + 1 else gn o) = i + 1
          omega
def mKey (z : Nat → Int32) (n m : Nat) : Nat := 6 * rSz (zO z) n (nI m) + (5 - m)
theorem mAhead_key {z : Nat → Int32} {n o m : Nat} (ho : o < 6) (hm : m < 6) : mAhead z n o m = decide (mKey z n m < mKey z n o) := by
  unfold mAhead mKey
  rw [Bool.eq_iff_iff]
  simp only [Bool.or_eq_true, Bool.and_eq_true, decide_eq_true_eq]
  omega
def zWb (z : Nat → Int32) (m : Nat) : Bool := decide (z (81 + m) = 1)
theorem cW_cnt (z : Nat → Int32) : cW (zW z) = cnt 6 (zWb z) := by
  unfold cW cnt
  refine itr_congr 6 0 (fun i _ x => ?_)
  unfold cwStep zWb zW
  by_cases h : z (81 + i) = 1
  · rw [if_pos h, if_pos (decide_eq_true h)]
  · rw [if_neg h, if_neg (by rw [decide_eq_true_eq]; exact h)]
theorem mAhd_cnt {z : Nat → Int32} {n m : Nat} (hm : m < 6) : mAhd z n m = cnt 6 (fun o => zWb z o && decide (mKey z n m < mKey z n o)) := by
  unfold mAhd cnt
  refine itr_congr 6 0 (fun o ho x => ?_)
  unfold ahStep zWb
  by_cases h : z (81 + o) = 1
  · simp [h, mAhead_key ho hm]
  · simp [h]
theorem mQuo_sum {z : Nat → Int32} {n : Nat} (hw : 0 < cW (zW z)) : n ≤ sumN 6 (mQuo z n) := by
  have e : sumN 6 (mQuo z n) = sumN 6 (fun m => if zWb z m = true then (if decide (mAhd z n m < n % cW (zW z)) = true then n / cW (zW z) + 1 else n / cW (zW z)) else 0) := by
    refine sumN_congr (fun m _ => ?_)
    unfold mQuo zWb
    by_cases h : z (81 + m) = 1
    · rw [if_pos h, if_pos (decide_eq_true h)]
      by_cases h2 : n % cW (zW z) ≤ mAhd z n m
      · rw [if_pos h2, if_neg (by rw [decide_eq_true_eq]; omega)]
      · rw [if_neg h2, if_pos (by rw [decide_eq_true_eq]; omega)]
    · rw [if_neg h, if_neg (by rw [decide_eq_true_eq]; exact h)]
  rw [e, sumN_split, ← cW_cnt]
  have hr := rank_cnt 6 (zWb z) (mKey z n) (n % cW (zW z)) (by rw [← cW_cnt]; exact Nat.le_of_lt (Nat.mod_lt _ hw))
  have hx : cnt 6 (fun m => zWb z m && decide (cnt 6 (fun o => zWb z o && decide (mKey z n m < mKey z n o)) < n % cW (zW z))) ≤ cnt 6 (fun m => zWb z m && decide (mAhd z n m < n % cW (zW z))) := by
    refine cnt_mono (fun o ho h => ?_)
    rw [mAhd_cnt ho]; exact h
  have hd := Nat.div_add_mod n (cW (zW z))
  rw [Nat.mul_comm] at hd
  omega
theorem cap_start {z qu gv pb go : Nat → Int32} {n : Nat} (hM : MI z n) (hw : 0 < cW (zW z)) :
    CapI n (itr 6 (fqStep z n) (qu, gv, pb)).1 (koAll z n (itr 6 (fqStep z n) (qu, gv, pb)).1 (go, (itr 6 (fqStep z n) (qu, gv, pb)).2.1, (itr 6 (fqStep z n) (qu, gv, pb)).2.2)) := by
  obtain ⟨-, hn, -, hO⟩ := hM
  have hq := fun m hm => fq_at z n (qu, gv, pb) 6 m hm
  generalize itr 6 (fqStep z n) (qu, gv, pb) = F at hq ⊢
  obtain ⟨gn, h1, h2⟩ := ko_inv (Q := F.1) (s := (go, F.2.1, F.2.2)) hO hn (fun m hm => (hq m hm).2.1) n (Nat.le_refl _)
  have hs := mQuo_sum (z := z) (n := n) hw
  have h3 := sumN_sub 6 (mQuo z n) gn
  unfold koAll
  refine ⟨mQuo z n, gn, fun m hm => ⟨(hq m hm).1, h1 m hm, ?_, ?_⟩, ?_⟩
  · unfold mQuo
    have := Nat.div_le_self n (cW (zW z))
    split
    · split <;> omega
    · omega
  · have := sumN_at (f := gn) hm
    omega
  · omega
/-- give out all that are left, each to the one who gets the next; k bounds the rounds -/
def whl (z Q : Nat → Int32) (n : Nat) : Nat → M3 → M3
  | 0, s => s
  | k + 1, s => match ndAll z s.1 n with
    | none => s
    | some d => whl z Q n k (gvM z d ((nmAll Q s.2.1 s.2.2).getD 0) s)
theorem whl_none {z Q : Nat → Int32} {n k : Nat} {s : M3} (h : ndAll z s.1 n = none) : whl z Q n k s = s := by
  cases k with
  | zero => rfl
  | succ k => show (match ndAll z s.1 n with | none => s | some d => whl z Q n k (gvM z d ((nmAll Q s.2.1 s.2.2).getD 0) s)) = s; rw [h]
theorem whl_some {z Q : Nat → Int32} {n k d m : Nat} {s : M3} (h : ndAll z s.1 n = some d) (hm : nmAll Q s.2.1 s.2.2 = some m) : whl z Q n (k + 1) s = whl z Q n k (gvM z d m s) := by
  show (match ndAll z s.1 n with | none => s | some d => whl z Q n k (gvM z d ((nmAll Q s.2.1 s.2.2).getD 0) s)) = _
  rw [h, hm]; rfl

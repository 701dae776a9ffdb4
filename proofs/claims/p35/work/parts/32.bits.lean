/-! ===== the law's numbers: who is at work as bits of one number ===== -/
def bt (M m : Nat) : Nat := M / 2 ^ m % 2
theorem bt_le (M m : Nat) : bt M m ≤ 1 := Nat.le_of_lt_succ (Nat.mod_lt _ (by decide))
theorem bt_all : ∀ M, M < 64 → ∀ m, m < 6 → (nI M >>> (nI m &&& 31)) &&& 1 = nI (bt M m) := by decide +kernel
theorem or_all : ∀ M, M < 64 → ∀ m, m < 6 → nI M ||| ((1 : Int32) <<< (nI m &&& 31)) = nI (M ||| 2 ^ m) := by decide +kernel
theorem xor_all : ∀ M, M < 64 → ∀ m, m < 6 → nI M ^^^ ((1 : Int32) <<< (nI m &&& 31)) = nI (M ^^^ 2 ^ m) := by decide +kernel
theorem or_lt : ∀ M, M < 64 → ∀ m, m < 6 → M ||| 2 ^ m < 64 := by decide +kernel
theorem xor_lt : ∀ M, M < 64 → ∀ m, m < 6 → M ^^^ 2 ^ m < 64 := by decide +kernel
theorem bt_or : ∀ M, M < 64 → ∀ m, m < 6 → ∀ k, k < 6 → bt (M ||| 2 ^ m) k = if k = m then 1 else bt M k := by decide +kernel
theorem bt_xor : ∀ M, M < 64 → ∀ m, m < 6 → ∀ k, k < 6 → bt (M ^^^ 2 ^ m) k = if k = m then 1 - bt M k else bt M k := by decide +kernel
theorem bt_sum : ∀ A, A < 64 → A = bt A 0 + 2 * bt A 1 + 4 * bt A 2 + 8 * bt A 3 + 16 * bt A 4 + 32 * bt A 5 := by decide +kernel
theorem bt_0 {M m : Nat} (hM : M < 64) (hm : 6 ≤ m) : bt M m = 0 := by
  have h1 : 2 ^ 6 ≤ 2 ^ m := Nat.pow_le_pow_right (by decide) hm
  have h2 : M < 2 ^ m := Nat.lt_of_lt_of_le hM h1
  unfold bt
  rw [Nat.div_eq_of_lt h2]
theorem nI_01 : nI 0 = 0 ∧ nI 1 = 1 := by decide +kernel
def wB (M m : Nat) : Bool := decide (bt M m = 1)
theorem wB_t {M m : Nat} : wB M m = true ↔ bt M m = 1 := ⟨fun h => of_decide_eq_true h, fun h => decide_eq_true h⟩
theorem wB_f {M m : Nat} (h : wB M m = false) : bt M m = 0 := by
  have h1 := bt_le M m
  have h2 : ¬ bt M m = 1 := of_decide_eq_false h
  omega
def mnStep (M m x : Nat) : Nat := x + bt M m
def menN (M : Nat) : Nat := itr 6 (mnStep M) 0
theorem menN_cnt (M : Nat) : menN M = cnt 6 (wB M) :=
  itr_congr 6 0 fun m hm x => by
    show x + bt M m = if wB M m = true then x + 1 else x
    by_cases e : wB M m = true
    · rw [if_pos e, wB_t.mp e]
    · rw [if_neg e, wB_f (Bool.eq_false_iff.mpr e)]; rfl
theorem menN_le (M : Nat) : menN M ≤ 6 := by rw [menN_cnt]; exact cnt_le 6 _
theorem menN_0 : ∀ M, M < 64 → (menN M = 0 ↔ M = 0) := by decide +kernel
theorem cW_men {W : Nat → Int32} {M : Nat} (h : ∀ m, m < 6 → W m = nI (bt M m)) : cW W = menN M :=
  itr_congr 6 0 fun m hm x => by
    unfold cwStep mnStep
    rw [h m hm]
    have := bt_le M m
    by_cases e : bt M m = 1
    · rw [e, if_pos nI_01.2]
    · have e0 : bt M m = 0 := by omega
      rw [e0, if_neg (by rw [nI_01.1]; decide)]; rfl
/-- masks made bit by bit -/
def mk6 (b0 b1 b2 b3 b4 b5 : Bool) : Nat := (if b0 = true then 1 else 0) + (if b1 = true then 2 else 0) + (if b2 = true then 4 else 0) + (if b3 = true then 8 else 0) + (if b4 = true then 16 else 0) + (if b5 = true then 32 else 0)
theorem mk6_all : ∀ b0 b1 b2 b3 b4 b5 : Bool, mk6 b0 b1 b2 b3 b4 b5 < 64 ∧ bt (mk6 b0 b1 b2 b3 b4 b5) 0 = (if b0 = true then 1 else 0) ∧ bt (mk6 b0 b1 b2 b3 b4 b5) 1 = (if b1 = true then 1 else 0) ∧ bt (mk6 b0 b1 b2 b3 b4 b5) 2 = (if b2 = true then 1 else 0) ∧
    bt (mk6 b0 b1 b2 b3 b4 b5) 3 = (if b3 = true then 1 else 0) ∧ bt (mk6 b0 b1 b2 b3 b4 b5) 4 = (if b4 = true then 1 else 0) ∧ bt (mk6 b0 b1 b2 b3 b4 b5) 5 = (if b5 = true then 1 else 0) := by decide +kernel
def mkM (P : Nat → Bool) : Nat := mk6 (P 0) (P 1) (P 2) (P 3) (P 4) (P 5)
theorem mk_mk6 (P : Nat → Bool) : mkM P = mk6 (P 0) (P 1) (P 2) (P 3) (P 4) (P 5) := rfl
theorem mk_lt (P : Nat → Bool) : mkM P < 64 := by rw [mk_mk6]; exact (mk6_all _ _ _ _ _ _).1
theorem mk_bt {P : Nat → Bool} {m : Nat} (hm : m < 6) : bt (mkM P) m = if P m = true then 1 else 0 := by
  obtain ⟨-, h0, h1, h2, h3, h4, h5⟩ := mk6_all (P 0) (P 1) (P 2) (P 3) (P 4) (P 5)
  rw [mk_mk6]
  rcases (show m = 0 ∨ m = 1 ∨ m = 2 ∨ m = 3 ∨ m = 4 ∨ m = 5 by omega) with rfl | rfl | rfl | rfl | rfl | rfl
  · exact h0
  · exact h1
  · exact h2
  · exact h3
  · exact h4
  · exact h5
theorem mk_ext {A B : Nat} (hA : A < 64) (hB : B < 64) (h : ∀ m, m < 6 → bt A m = bt B m) : A = B := by
  rw [bt_sum A hA, bt_sum B hB, h 0 (by omega), h 1 (by omega), h 2 (by omega), h 3 (by omega), h 4 (by omega), h 5 (by omega)]
/-! ===== who is ahead of whom, the quotas ===== -/
def kyN (n : Nat) (o : Nat → Int32) (m : Nat) : Nat := 6 * rSz o n (nI m) + (5 - m)
def ahd (n M : Nat) (o : Nat → Int32) (m : Nat) : Nat := cnt 6 (fun k => wB M k && decide (kyN n o m < kyN n o k))
def inT (n M : Nat) (o : Nat → Int32) (t m : Nat) : Bool := wB M m && decide (ahd n M o m < t)
def qV (n M : Nat) (o : Nat → Int32) (t m : Nat) : Nat := bt M m * (n / menN M) + (if inT n M o t m = true then 1 else 0)
def qT (n M : Nat) (o : Nat → Int32) (t : Nat) : Nat → Int32 := fun m => nI (qV n M o t m)
def qN (n M : Nat) (o : Nat → Int32) (m : Nat) : Nat := qV n M o (n % menN M) m
def hdN (n M : Nat) (o : Nat → Int32) (t : Nat) : Nat := mkM (inT n M o t)
theorem inT_t {n M t m : Nat} {o : Nat → Int32} : inT n M o t m = true ↔ bt M m = 1 ∧ ahd n M o m < t := by
  unfold inT; rw [Bool.and_eq_true, wB_t, decide_eq_true_eq]
theorem ky_inj {n a b : Nat} {o : Nat → Int32} (ha : a < 6) (hb : b < 6) (h : kyN n o a = kyN n o b) : a = b := by unfold kyN at h; omega
theorem ahd_lt {n M a b : Nat} {o : Nat → Int32} (hb : b < 6) (hw : bt M b = 1) (h : kyN n o a < kyN n o b) : ahd n M o b < ahd n M o a := by
  refine cnt_strict (m := b) (fun k hk h9 => ?_) hb ?_ ?_
  · rw [Bool.and_eq_true, decide_eq_true_eq] at h9 ⊢
    exact ⟨h9.1, by omega⟩
  · rw [Bool.and_eq_true, decide_eq_true_eq]; exact ⟨wB_t.mpr hw, h⟩
  · rw [Bool.and_eq_true, decide_eq_true_eq]; intro h9; omega
theorem ahd_inj {n M a b : Nat} {o : Nat → Int32} (ha : a < 6) (hb : b < 6) (wa : bt M a = 1) (wb : bt M b = 1) (h : ahd n M o a = ahd n M o b) : a = b := by
  rcases Nat.lt_trichotomy (kyN n o a) (kyN n o b) with h1 | h1 | h1
  · have := ahd_lt (M := M) hb wb h1; omega
  · exact ky_inj ha hb h1
  · have := ahd_lt (M := M) ha wa h1; omega
theorem cnt_one {n : Nat} {P Q : Nat → Bool} (h : ∀ a b, a < n → b < n → Q a = true → Q b = true → P a = false → P b = false → a = b) : cnt n Q ≤ cnt n P + 1 := by
  induction n with
  | zero => exact Nat.zero_le _
  | succ n ih =>
    have h1 := ih fun a b ha hb => h a b (by omega) (by omega)
    rw [cnt_s, cnt_s]
    by_cases hq : Q n = true
    · rw [if_pos hq]
      by_cases hp : P n = true
      · rw [if_pos hp]; omega
      · rw [if_neg hp]
        have h2 : cnt n Q ≤ cnt n P := cnt_mono fun a ha hqa => by
          cases hpa : P a with
          | true => rfl
          | false =>
            have := h a n (by omega) (by omega) hqa hq hpa (Bool.eq_false_iff.mpr hp)
            omega
        omega
    · rw [if_neg hq]
      split <;> omega
theorem inT_le {n M : Nat} {o : Nat → Int32} : ∀ t, cnt 6 (inT n M o t) ≤ t := by
  intro t
  induction t with
  | zero =>
    have h : cnt 6 (inT n M o 0) ≤ cnt 6 (fun _ => false) := cnt_mono fun a _ h9 => by have := (inT_t.mp h9).2; omega
    exact Nat.le_trans h (by decide)
  | succ t ih =>
    have h := cnt_one (n := 6) (P := inT n M o t) (Q := inT n M o (t + 1)) fun a b ha hb qa qb pa pb => by
      obtain ⟨w1, a1⟩ := inT_t.mp qa
      obtain ⟨w2, a2⟩ := inT_t.mp qb
      have n1 : ¬ ahd n M o a < t := fun h9 => by rw [inT_t.mpr ⟨w1, h9⟩] at pa; cases pa
      have n2 : ¬ ahd n M o b < t := fun h9 => by rw [inT_t.mpr ⟨w2, h9⟩] at pb; cases pb
      exact ahd_inj (n := n) (M := M) (o := o) ha hb w1 w2 (by omega)
    omega
/-- the one with the greatest round among those who have not had it: as the law finds him -/
def bsStep (n M h : Nat) (o : Nat → Int32) (i : Nat) (x : Int32) : Int32 := if bt M (5 - i) = 1 then (if bt h (5 - i) = 0 then (if x < 0 then nI (5 - i) else if rSz o n (nI (5 - i)) < rSz o n x then x else nI (5 - i)) else x) else x
def bsAll (n M h : Nat) (o : Nat → Int32) : Int32 := itr 6 (bsStep n M h o) (-1)
theorem bs_ok {n M h : Nat} {o : Nat → Int32} : ∀ i, i ≤ 6 → (itr i (bsStep n M h o) (-1) = -1 ∧ ∀ m, m < 6 → 6 - i ≤ m → ¬ (bt M m = 1 ∧ bt h m = 0)) ∨
    (∃ b, b < 6 ∧ 6 - i ≤ b ∧ (bt M b = 1 ∧ bt h b = 0) ∧ itr i (bsStep n M h o) (-1) = nI b ∧ ∀ m, m < 6 → 6 - i ≤ m → (bt M m = 1 ∧ bt h m = 0) → kyN n o m ≤ kyN n o b) := by
  intro i
  induction i with
  | zero => intro _; exact Or.inl ⟨rfl, fun m hm h9 => by omega⟩
  | succ i ih =>
    intro hi
    have ih := ih (by omega)
    show (bsStep n M h o i (itr i (bsStep n M h o) (-1)) = -1 ∧ _) ∨ ∃ b, b < 6 ∧ 6 - (i + 1) ≤ b ∧ _ ∧ bsStep n M h o i (itr i (bsStep n M h o) (-1)) = nI b ∧ _
    generalize itr i (bsStep n M h o) (-1) = x at ih
    have hm6 : 5 - i < 6 := by omega
    unfold bsStep
    by_cases hS : bt M (5 - i) = 1 ∧ bt h (5 - i) = 0
    · rw [if_pos hS.1, if_pos hS.2]
      rcases ih with ⟨rfl, h1⟩ | ⟨b, b1, b2, b3, rfl, b5⟩
      · rw [if_pos (by decide)]
        refine Or.inr ⟨5 - i, hm6, by omega, hS, rfl, fun m hm h2 h3 => ?_⟩
        by_cases e : m = 5 - i
        · rw [e]; exact Nat.le_refl _
        · exact absurd h3 (h1 m hm (by omega))
      · rw [if_neg (nI_pos (by omega))]
        by_cases c : rSz o n (nI (5 - i)) < rSz o n (nI b)
        · rw [if_pos c]
          refine Or.inr ⟨b, b1, by omega, b3, rfl, fun m hm h2 h3 => ?_⟩
          by_cases e : m = 5 - i
          · rw [e]; unfold kyN; omega
          · exact b5 m hm (by omega) h3
        · rw [if_neg c]
          refine Or.inr ⟨5 - i, hm6, by omega, hS, rfl, fun m hm h2 h3 => ?_⟩
          by_cases e : m = 5 - i
          · rw [e]; exact Nat.le_refl _
          · have := b5 m hm (by omega) h3
            have h9 : kyN n o b ≤ kyN n o (5 - i) := by unfold kyN; omega
            omega
    · have e : (if bt M (5 - i) = 1 then (if bt h (5 - i) = 0 then (if x < 0 then nI (5 - i) else if rSz o n (nI (5 - i)) < rSz o n x then x else nI (5 - i)) else x) else x) = x := by
        by_cases c : bt M (5 - i) = 1
        · rw [if_pos c, if_neg fun h9 => hS ⟨c, h9⟩]
        · rw [if_neg c]
      rw [e]
      rcases ih with ⟨h0, h1⟩ | ⟨b, b1, b2, b3, b4, b5⟩
      · refine Or.inl ⟨h0, fun m hm h2 => ?_⟩
        by_cases e : m = 5 - i
        · rw [e]; exact hS
        · exact h1 m hm (by omega)
      · refine Or.inr ⟨b, b1, by omega, b3, b4, fun m hm h2 h3 => ?_⟩
        by_cases e : m = 5 - i
        · rw [e] at h3; exact absurd h3 hS
        · exact b5 m hm (by omega) h3
theorem hd_bt {n M t m : Nat} {o : Nat → Int32} (hm : m < 6) : bt (hdN n M o t) m = if inT n M o t m = true then 1 else 0 := mk_bt hm
theorem hd_0 {n M : Nat} {o : Nat → Int32} : hdN n M o 0 = 0 := by
  have h : ∀ m, inT n M o 0 m = false := fun m => Bool.eq_false_iff.mpr fun h9 => by have := (inT_t.mp h9).2; omega
  unfold hdN mkM
  rw [h, h, h, h, h, h]; rfl
theorem hd_lt (n M : Nat) (o : Nat → Int32) (t : Nat) : hdN n M o t < 64 := mk_lt _
theorem more_step {n M t : Nat} {o : Nat → Int32} (hM : M < 64) (ht : t < menN M) : ∃ b, b < 6 ∧ bsAll n M (hdN n M o t) o = nI b ∧ hdN n M o t ||| 2 ^ b = hdN n M o (t + 1) ∧ upd (qT n M o t) b (qT n M o t b + 1) = qT n M o (t + 1) := by
  have hS : ∀ m, m < 6 → ((bt M m = 1 ∧ bt (hdN n M o t) m = 0) ↔ (bt M m = 1 ∧ ¬ ahd n M o m < t)) := fun m hm => by
    rw [hd_bt hm]
    constructor
    · rintro ⟨h1, h2⟩
      refine ⟨h1, fun h9 => ?_⟩
      rw [if_pos (inT_t.mpr ⟨h1, h9⟩)] at h2
      exact absurd h2 (by decide)
    · rintro ⟨h1, h2⟩
      exact ⟨h1, if_neg fun h9 => h2 (inT_t.mp h9).2⟩
  rw [menN_cnt] at ht
  obtain ⟨m0, m1, m2, m3⟩ := cnt_miss (n := 6) (P := inT n M o t) (Q := wB M) (Nat.lt_of_le_of_lt (inT_le t) ht)
  have m4 : bt M m0 = 1 := wB_t.mp m2
  rcases bs_ok (n := n) (M := M) (h := hdN n M o t) (o := o) 6 (Nat.le_refl _) with ⟨-, h1⟩ | ⟨b, b1, -, b3, b4, b5⟩
  · exact absurd ((hS m0 m1).mpr ⟨m4, fun h9 => m3 (inT_t.mpr ⟨m4, h9⟩)⟩) (h1 m0 m1 (by omega))
  · obtain ⟨w1, w2⟩ := (hS b b1).mp b3
    have hle : ahd n M o b ≤ cnt 6 (inT n M o t) := cnt_mono fun k hk h9 => by
      rw [Bool.and_eq_true, decide_eq_true_eq] at h9
      have wk := wB_t.mp h9.1
      refine inT_t.mpr ⟨wk, ?_⟩
      by_cases c : ahd n M o k < t
      · exact c
      · have := b5 k hk (by omega) ((hS k hk).mpr ⟨wk, c⟩)
        omega
    have hah : ahd n M o b = t := by have := inT_le (n := n) (M := M) (o := o) t; omega
    have hin : ∀ m, m < 6 → m ≠ b → inT n M o (t + 1) m = inT n M o t m := fun m hm hmb => by
      refine Bool.eq_iff_iff.mpr ?_
      rw [inT_t, inT_t]
      constructor
      · rintro ⟨a1, a2⟩
        refine ⟨a1, ?_⟩
        by_cases c : ahd n M o m < t
        · exact c
        · exact absurd (ahd_inj (n := n) (M := M) (o := o) hm b1 a1 w1 (by omega)) hmb
      · rintro ⟨a1, a2⟩
        exact ⟨a1, by omega⟩
    have hb0 : inT n M o t b = false := Bool.eq_false_iff.mpr fun h9 => by have := (inT_t.mp h9).2; omega
    have hb1 : inT n M o (t + 1) b = true := inT_t.mpr ⟨w1, by omega⟩
    refine ⟨b, b1, b4, mk_ext (or_lt _ (hd_lt n M o t) b b1) (hd_lt n M o (t + 1)) fun m hm => ?_, funext fun m => ?_⟩
    · rw [bt_or _ (hd_lt n M o t) b b1 m hm, hd_bt hm, hd_bt hm]
      by_cases e : m = b
      · rw [if_pos e, e, if_pos hb1]
      · rw [if_neg e, hin m hm e]
    · by_cases e : m = b
      · rw [e, pk_us]
        show nI (qV n M o t b) + 1 = nI (qV n M o (t + 1) b)
        unfold qV
        rw [hb0, hb1, if_neg (by decide), if_pos rfl]
        exact nI_add _ 1
      · rw [pk_un e]
        show nI (qV n M o t m) = nI (qV n M o (t + 1) m)
        unfold qV
        by_cases hm : m < 6
        · rw [hin m hm e]
        · have h0 : ∀ s, inT n M o s m = false := fun s => Bool.eq_false_iff.mpr fun h9 => by
            have h8 := (inT_t.mp h9).1
            rw [bt_0 hM (by omega)] at h8
            exact absurd h8 (by decide)
          rw [h0, h0]
theorem qT_0 {n M : Nat} {o : Nat → Int32} (hM : M < 64) : itr 6 (fun j f => upd f j (nI (bt M j * (n / menN M)))) (fun _ => 0) = qT n M o 0 := by
  funext m
  rw [itr_at (v := fun j => nI (bt M j * (n / menN M))) (fun _ _ => rfl) 6 m]
  show _ = nI (qV n M o 0 m)
  unfold qV
  have h0 : ¬ inT n M o 0 m = true := fun h9 => by have := (inT_t.mp h9).2; omega
  rw [if_neg h0]
  by_cases hm : m < 6
  · rw [if_pos hm]; rfl
  · rw [if_neg hm, bt_0 hM (by omega), Nat.zero_mul]; exact nI_0.symm
theorem qN_le {n M m : Nat} {o : Nat → Int32} (hn : n ≤ 20) : qN n M o m ≤ 21 := by
  unfold qN qV
  have h1 := bt_le M m
  have h2 : n / menN M ≤ n := Nat.div_le_self _ _
  have h3 : bt M m * (n / menN M) ≤ 1 * (n / menN M) := Nat.mul_le_mul_right _ h1
  split <;> omega
theorem qN_0 {n M m : Nat} {o : Nat → Int32} (h : bt M m = 0) : qN n M o m = 0 := by
  unfold qN qV
  rw [h, Nat.zero_mul, if_neg fun h9 => by have := (inT_t.mp h9).1; omega]
theorem qN_sum {n M : Nat} {o : Nat → Int32} (hc : 0 < menN M) : n ≤ sumN 6 (qN n M o) := by
  have e : sumN 6 (qN n M o) = sumN 6 (fun m => if wB M m = true then (if decide (ahd n M o m < n % menN M) = true then n / menN M + 1 else n / menN M) else 0) := by
    refine sumN_congr (fun m _ => ?_)
    by_cases h : wB M m = true
    · rw [if_pos h]
      unfold qN qV
      rw [wB_t.mp h, Nat.one_mul]
      by_cases h2 : ahd n M o m < n % menN M
      · rw [if_pos (inT_t.mpr ⟨wB_t.mp h, h2⟩), if_pos (decide_eq_true h2)]
      · rw [if_neg fun h9 => h2 (inT_t.mp h9).2, if_neg (by rw [decide_eq_true_eq]; exact h2)]; rfl
    · rw [if_neg h, qN_0 (wB_f (Bool.eq_false_iff.mpr h))]
  rw [e, sumN_split, ← menN_cnt]
  have hr := rank_cnt 6 (wB M) (kyN n o) (n % menN M) (by rw [← menN_cnt]; exact Nat.le_of_lt (Nat.mod_lt _ hc))
  have hd := Nat.div_add_mod n (menN M)
  rw [Nat.mul_comm] at hd
  have hr2 : n % menN M ≤ cnt 6 (fun m => wB M m && decide (ahd n M o m < n % menN M)) := hr
  omega

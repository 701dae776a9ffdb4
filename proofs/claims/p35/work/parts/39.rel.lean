/-! ===== the class's dairy and the law's numbers ===== -/
section DTOP
variable {p : Program} {l : Launch} {e : Env} {R : Room} {s : State} {m : MethodId} {args : Array Value} {below : List Frame} {meth : Method} {c : Code} {H : Heap} {locs : List Loc} {cells slots : Nat} {Q : State → Prop} {pc : Nat} {ls : Array Slot} {rest : List Value}
theorem top_d {x x' : UInt64} (h : x = x') (kk : W p l e R s m args below meth c H locs cells slots Q (F0 m pc ls (.double x' :: rest))) : W p l e R s m args below meth c H locs cells slots Q (F0 m pc ls (.double x :: rest)) := h ▸ kk
end DTOP
def OwB (M : Nat) (x : Int32) : Prop := x = -1 ∨ ∃ k, k < 6 ∧ bt M k = 1 ∧ x = nI k
def RQ (D : DS) (M : Nat) (g p w q : Nat → Int32) : Prop :=
  M < 64 ∧ D.2.2.2.2.2.1 ≤ 20 ∧ (∀ m, m < 6 → D.2.2.1 m = nI (bt M m)) ∧ (∀ d, d < D.2.2.2.2.2.1 → p d = D.1 d ∧ w d = D.2.1 d) ∧ (∀ d, d < D.2.2.2.2.2.1 → ∃ k, 1 ≤ k ∧ k ≤ 9 ∧ D.1 d = nI k) ∧ (∀ d, d < D.2.2.2.2.2.1 → OwB M (D.2.1 d)) ∧
  g 0 = nI D.2.2.2.2.2.1 ∧ g 1 = D.2.2.2.2.2.2.1 ∧ g 2 = D.2.2.2.2.2.2.2.1 ∧ g 3 = D.2.2.2.2.2.2.2.2.1 ∧ g 4 = D.2.2.2.2.2.2.2.2.2 ∧ g 5 = nI M ∧ (D.2.2.2.2.2.2.1 = 0 ∨ D.2.2.2.2.2.2.1 = 1 ∨ D.2.2.2.2.2.2.1 = 2) ∧ (¬ D.2.2.2.2.2.2.1 = 0 → ∀ d, d < D.2.2.2.2.2.1 → q d = D.2.2.2.1 d)
def isS (D : DS) (i : Nat) (S : SS) : SS := itr i (fun _ S => shOut (shOut S D) D) S
theorem isS_s {D : DS} {i : Nat} {S : SS} : isS D (i + 1) S = shOut (shOut (isS D i S) D) D := rfl
def isM (D : DS) (m : Nat) (S : SS) (T : DS) : SS × DS := itr m (fun k q => (shOut q.1 (dSw q.2 D k), dSw q.2 D k)) (S, T)
theorem i_nge {x : Int32} (h : ¬ 0 ≤ x) : x < 0 := by
  rw [Int32.le_iff_toInt_le] at h
  rw [Int32.lt_iff_toInt_lt]
  omega
theorem i_ge {x : Int32} (h : 0 ≤ x) : ¬ x < 0 := by
  rw [Int32.le_iff_toInt_le] at h
  rw [Int32.lt_iff_toInt_lt]
  omega
theorem isM_s {D : DS} {m : Nat} {S : SS} {T : DS} : isM D (m + 1) S T = (shOut (isM D m S T).1 (dSw (isM D m S T).2 D m), dSw (isM D m S T).2 D m) := rfl
section RQS
variable {D : DS} {M : Nat} {g p w q : Nat → Int32}
theorem OwB.six {x : Int32} (h : OwB M x) : x = -1 ∨ ∃ k, k < 6 ∧ x = nI k := h.imp_right fun ⟨k, k1, _, k3⟩ => ⟨k, k1, k3⟩
theorem RQ.lsd (h : RQ D M g p w q) : LsD D M p w := ⟨h.1, h.2.1, h.2.2.1, h.2.2.2.1, h.2.2.2.2.1, fun d hd => (h.2.2.2.2.2.1 d hd).six⟩
theorem OwB.neg {x : Int32} (h : OwB M x) : x < 0 ↔ x = -1 := by
  rcases h with h1 | ⟨k, k1, -, h1⟩
  · rw [h1]; decide
  · rw [h1]
    exact ⟨fun h9 => absurd h9 (nI_pos (by omega)), fun h9 => absurd h9 (nI_n1' (by omega))⟩
theorem rsn_law {S : SS} {gl : Nat → Int32} {i : Nat} (h : RQ D M g p w q) (hi : i < D.2.2.2.2.2.1) : rsn (shOut S D) D i = if M = 0 then 1 else if w i < 0 then 2 else if lsG D.2.2.2.2.2.1 M p w gl i = w i then 0 else 3 := by
  have ho := ls_out (S := S) (gl := gl) h.lsd i hi
  have hw := (h.2.2.2.1 i hi).2
  have hO := h.2.2.2.2.2.1 i hi
  have hcw := cW_men h.2.2.1
  have h0 := menN_0 M h.1
  unfold rsn
  rw [hcw, ← ho, hw]
  by_cases c : M = 0
  · rw [if_pos (h0.mpr c), if_pos c]
  · have c1 : ¬ menN M = 0 := fun h9 => c (h0.mp h9)
    obtain ⟨k, k1, -, k3⟩ := ls_own (gl := gl) h.lsd c1 i hi
    rw [if_neg c1, if_neg c, k3]
    rcases hO with e | ⟨j, j1, -, e⟩
    · rw [e, if_neg (nI_n1 (by omega)), if_pos rfl, if_pos (by decide)]
    · rw [e, if_neg (nI_pos (by omega)), if_neg (nI_n1' (by omega))]
      by_cases c2 : nI j = nI k
      · rw [if_pos c2, if_pos c2.symm]
      · rw [if_neg c2, if_neg fun h9 => c2 h9.symm]
theorem st_pos (h : RQ D M g p w q) : D.2.2.2.2.2.2.1 ≤ 0 ↔ D.2.2.2.2.2.2.1 = 0 := by
  rcases h.2.2.2.2.2.2.2.2.2.2.2.2.1 with e | e | e <;> rw [e] <;> decide
theorem plan_law {i : Nat} (h : RQ D M g p w q) (hi : i < D.2.2.2.2.2.1) : dPlan D i = if D.2.2.2.2.2.2.1 ≤ 0 then w i else q i := by
  have hs := st_pos h
  have hq := h.2.2.2.2.2.2.2.2.2.2.2.2.2
  unfold dPlan dHO
  by_cases c : D.2.2.2.2.2.2.1 = 0
  · rw [if_pos (hs.mpr c), if_neg (by rw [decide_eq_true c]; decide)]; exact ((h.2.2.2.1 i hi).2).symm
  · rw [if_neg fun h9 => c (hs.mp h9), if_pos (by rw [decide_eq_false c]; rfl)]; exact (hq c i hi).symm
theorem work_law {m : Nat} (h : RQ D M g p w q) (hm : m < 6) : bI (decide (D.2.2.1 m = 1)) = nI (bt M m) := by
  rw [h.2.2.1 m hm]
  have := bt_le M m
  by_cases c : bt M m = 1
  · rw [c]; decide +kernel
  · rw [show bt M m = 0 by omega]; decide +kernel
theorem w_iff {m : Nat} (h : RQ D M g p w q) (hm : m < 6) : D.2.2.1 m = 1 ↔ ¬ bt M m = 0 := by
  rw [h.2.2.1 m hm]
  have := bt_le M m
  by_cases c : bt M m = 1
  · rw [c]; exact ⟨fun _ => by decide, fun _ => nI_01.2⟩
  · rw [show bt M m = 0 by omega, nI_01.1]; exact ⟨fun h9 => absurd h9 (by decide), fun h9 => absurd rfl h9⟩
theorem off_rs {m : Nat} (h : RQ D M g p w q) (hm : m < 6) (hw : bt M m = 0) : rSz D.2.1 D.2.2.2.2.2.1 (nI m) = 0 := by
  rw [rSz_cnt, cnt_zero fun d hd => ?_]
  refine decide_eq_false fun h9 => ?_
  rcases h.2.2.2.2.2.1 d hd with h1 | ⟨k, k1, k2, k3⟩
  · rw [h9] at h1; exact nI_n1' (by omega) h1
  · rw [h9, nI_eq (by omega) (by omega)] at k3
    subst k3; omega
theorem df_2 {m mo le : Nat} (h : RQ D M g p w q) (hm : m < 6) : (dfStep D.2.1 D.2.2.1 D.2.2.2.2.2.1 m (mo, le)).2 = if bt M m = 0 then le else if le ≤ rSz D.2.1 D.2.2.2.2.2.1 (nI m) then le else rSz D.2.1 D.2.2.2.2.2.1 (nI m) := by
  have hw := w_iff h hm
  unfold dfStep
  by_cases c : bt M m = 0
  · rw [if_pos c, if_neg fun h9 => hw.mp h9 c]
  · rw [if_neg c, if_pos (hw.mpr c)]
theorem df_1 {m mo le : Nat} (h : RQ D M g p w q) (hm : m < 6) : (dfStep D.2.1 D.2.2.1 D.2.2.2.2.2.1 m (mo, le)).1 = if rSz D.2.1 D.2.2.2.2.2.1 (nI m) ≤ mo then mo else rSz D.2.1 D.2.2.2.2.2.1 (nI m) := by
  have hw := w_iff h hm
  unfold dfStep
  by_cases c : bt M m = 0
  · rw [off_rs h hm c, if_pos (Nat.zero_le _), if_neg fun h9 => hw.mp h9 c]
  · rw [if_pos (hw.mpr c)]
theorem df_bd {O W : Nat → Int32} {n m mo le : Nat} (h : mo ≤ 20 ∧ le ≤ 20) (hs : rSz O n (nI m) ≤ n) (hn : n ≤ 20) : (dfStep O W n m (mo, le)).1 ≤ 20 ∧ (dfStep O W n m (mo, le)).2 ≤ 20 := by
  unfold dfStep
  by_cases c : W m = 1
  · rw [if_pos c]
    show (if rSz O n (nI m) ≤ mo then mo else rSz O n (nI m)) ≤ 20 ∧ (if le ≤ rSz O n (nI m) then le else rSz O n (nI m)) ≤ 20
    constructor
    · split <;> omega
    · split <;> omega
  · rw [if_neg c]; exact h
theorem df_mono {O W : Nat → Int32} {n m : Nat} (hw : W m = 1) : ∀ i, m < i → (itr i (dfStep O W n) (0, 20)).2 ≤ rSz O n (nI m) ∧ rSz O n (nI m) ≤ (itr i (dfStep O W n) (0, 20)).1 := by
  intro i
  induction i with
  | zero => intro h; exact absurd h (Nat.not_lt_zero _)
  | succ i ih =>
    intro h
    show (dfStep O W n i (itr i (dfStep O W n) (0, 20))).2 ≤ _ ∧ _ ≤ (dfStep O W n i (itr i (dfStep O W n) (0, 20))).1
    generalize itr i (dfStep O W n) (0, 20) = z at ih
    unfold dfStep
    by_cases e : m = i
    · subst e
      rw [if_pos hw]
      dsimp only
      constructor
      · split <;> omega
      · split <;> omega
    · have ih := ih (by omega)
      by_cases c : W i = 1
      · rw [if_pos c]
        dsimp only
        constructor
        · split <;> omega
        · split <;> omega
      · rw [if_neg c]; exact ih
theorem df_le2 {mo le : Nat} (h : RQ D M g p w q) (hM : ¬ M = 0) (he : (mo, le) = itr 6 (dfStep D.2.1 D.2.2.1 D.2.2.2.2.2.1) (0, 20)) : le ≤ mo := by
  have hc : ¬ cW D.2.2.1 = 0 := by rw [cW_men h.2.2.1]; exact fun h9 => hM ((menN_0 M h.1).mp h9)
  obtain ⟨m, m1, m2⟩ := cW_ex hc
  have := df_mono (O := D.2.1) (n := D.2.2.2.2.2.1) m2 6 m1
  rw [← he] at this
  dsimp only at this
  omega
theorem une_0 (h : RQ D M g p w q) (h0 : M = 0 ∨ D.2.2.2.2.2.1 = 0) : FP.dconst0 = uneX D := by
  have hn := h.2.1
  unfold uneX
  by_cases c : D.2.2.2.2.2.1 = 0
  · rw [if_pos c]
  · rw [if_neg c]
    have hM : M = 0 := h0.resolve_right c
    have hr : rDiff D.2.1 D.2.2.1 D.2.2.2.2.2.1 = 0 := by
      have key : ∀ i, i ≤ 6 → itr i (dfStep D.2.1 D.2.2.1 D.2.2.2.2.2.1) (0, 20) = (0, 20) := by
        intro i
        induction i with
        | zero => intro _; rfl
        | succ i ih =>
          intro hi
          show dfStep D.2.1 D.2.2.1 D.2.2.2.2.2.1 i (itr i (dfStep D.2.1 D.2.2.1 D.2.2.2.2.2.1) (0, 20)) = (0, 20)
          rw [ih (by omega)]
          unfold dfStep
          rw [if_neg fun h9 => (w_iff h (show i < 6 by omega)).mp h9 (by
            subst hM
            unfold bt
            rw [Nat.zero_div])]
      have y : dfAll D.2.1 D.2.2.1 D.2.2.2.2.2.1 = (0, 20) := key 6 (Nat.le_refl _)
      unfold rDiff
      rw [y]; rfl
    rw [hr]
    exact (div_0 _ (by omega) (by omega)).symm
theorem une_1 {mo le : Nat} (h : RQ D M g p w q) (he : (mo, le) = itr 6 (dfStep D.2.1 D.2.2.1 D.2.2.2.2.2.1) (0, 20)) (hn : ¬ D.2.2.2.2.2.1 = 0) : FP.ddiv (FP.i2d (nI (mo - le))) (FP.i2d (nI D.2.2.2.2.2.1)) = uneX D := by
  unfold uneX
  rw [if_neg hn]
  have y1 : (dfAll D.2.1 D.2.2.1 D.2.2.2.2.2.1).1 = mo := (congrArg Prod.fst he).symm
  have y2 : (dfAll D.2.1 D.2.2.1 D.2.2.2.2.2.1).2 = le := (congrArg Prod.snd he).symm
  have hr : rDiff D.2.1 D.2.2.1 D.2.2.2.2.2.1 = mo - le := by
    unfold rDiff
    rw [y1, y2]
    split <;> omega
  rw [hr]
theorem une_all : ∀ a, a < 21 → ∀ b, b < 21 → 0 < b → Op.cmpValue (FP.dcmp (FP.ddiv (FP.i2d (nI a)) (FP.i2d (nI b))) (FP.ddiv (FP.i2d (nI a)) (FP.i2d (nI b)))) .l = 0 := by decide +kernel
theorem une_c (h : RQ D M g p w q) : Op.cmpValue (FP.dcmp (uneX D) (uneX D)) .l = 0 := by
  have hn := h.2.1
  have hr := rDiff_le D.2.1 D.2.2.1 D.2.2.2.2.2.1 hn
  unfold uneX
  by_cases c : D.2.2.2.2.2.1 = 0
  · rw [if_pos c]; decide +kernel
  · rw [if_neg c]
    exact une_all _ (by omega) _ (by omega) (by omega)
/-- one milkman comes or leaves, in thought -/
theorem sw_n {T : DS} {m : Nat} : (dSw T D m).2.2.2.2.2.1 = D.2.2.2.2.2.1 := by unfold dSw; split <;> rfl
theorem sw_lsd {T : DS} {m : Nat} {w2 : Nat → Int32} (h : RQ D M g p w q) (hm : m < 6) (hw2 : ∀ d, d < D.2.2.2.2.2.1 → w2 d = if w d = nI m then -1 else w d) : LsD (dSw T D m) (M ^^^ 2 ^ m) p w2 := by
  obtain ⟨hM, hn, hW, hPO, hp, hO, -⟩ := id h
  have hx : ∀ k, k < 6 → bt (M ^^^ 2 ^ m) k = if k = m then 1 - bt M k else bt M k := fun k hk => bt_xor M hM m hm k hk
  have hcW : (dCopy T D).2.2.1 m = D.2.2.1 m := by show rowCopy T.2.2.1 D.2.2.1 6 m = _; rw [copy_at, if_pos hm]
  have hcP : ∀ d, d < D.2.2.2.2.2.1 → (dCopy T D).1 d = D.1 d := fun d hd => by show rowCopy T.1 D.1 20 d = _; rw [copy_at, if_pos (by omega)]
  have hcO : ∀ d, d < D.2.2.2.2.2.1 → (dCopy T D).2.1 d = D.2.1 d := fun d hd => by show rowCopy T.2.1 D.2.1 20 d = _; rw [copy_at, if_pos (by omega)]
  have hcn : (dCopy T D).2.2.2.2.2.1 = D.2.2.2.2.2.1 := rfl
  have hcW2 : ∀ k, k < 6 → (dCopy T D).2.2.1 k = D.2.2.1 k := fun k hk => by show rowCopy T.2.2.1 D.2.2.1 6 k = _; rw [copy_at, if_pos hk]
  unfold dSw
  rw [hcW]
  by_cases c : D.2.2.1 m = 1
  · rw [if_pos c]
    have hb : bt M m = 1 := by have := bt_le M m; have := (w_iff h hm).mp c; omega
    have hd9 : ∀ d, d < D.2.2.2.2.2.1 → (dDis (dCopy T D) m).2.1 d = if D.2.1 d = nI m then -1 else D.2.1 d := fun d hd => by
      show (itr D.2.2.2.2.2.1 (dsStep (nI m)) ((dCopy T D).2.1, 0)).1 d = _
      rw [(ds_at (nI m) (dCopy T D).2.1 D.2.2.2.2.2.1).1 d, hcO d hd]
      by_cases e : D.2.1 d = nI m
      · rw [if_pos ⟨hd, e⟩, if_pos e]
      · rw [if_neg fun h9 => e h9.2, if_neg e]
    refine ⟨xor_lt M hM m hm, hn, fun k hk => ?_, fun d hd => ⟨?_, ?_⟩, fun d hd => ?_, fun d hd => ?_⟩
    · show upd (dCopy T D).2.2.1 m 0 k = _
      rw [hx k hk]
      by_cases e : k = m
      · subst e; rw [pk_us, if_pos rfl, hb]; exact nI_01.1.symm
      · rw [pk_un e, if_neg e, hcW2 k hk]; exact hW k hk
    · have hd : d < D.2.2.2.2.2.1 := hd
      show p d = (dCopy T D).1 d
      rw [hcP d hd]; exact (hPO d hd).1
    · have hd : d < D.2.2.2.2.2.1 := hd
      rw [hw2 d hd, hd9 d hd, (hPO d hd).2]
    · have hd : d < D.2.2.2.2.2.1 := hd
      show ∃ k, 1 ≤ k ∧ k ≤ 9 ∧ (dCopy T D).1 d = nI k
      rw [hcP d hd]; exact hp d hd
    · have hd : d < D.2.2.2.2.2.1 := hd
      rw [hd9 d hd]
      by_cases e : D.2.1 d = nI m
      · rw [if_pos e]; exact Or.inl rfl
      · rw [if_neg e]; exact (hO d hd).six
  · rw [if_neg c]
    have hb : bt M m = 0 := by
      have := bt_le M m
      rcases Nat.eq_zero_or_pos (bt M m) with h9 | h9
      · exact h9
      · exact absurd ((w_iff h hm).mpr (by omega)) c
    refine ⟨xor_lt M hM m hm, hn, fun k hk => ?_, fun d hd => ⟨?_, ?_⟩, fun d hd => ?_, fun d hd => ?_⟩
    · show upd (dCopy T D).2.2.1 m 1 k = _
      rw [hx k hk]
      by_cases e : k = m
      · subst e; rw [pk_us, if_pos rfl, hb]; exact nI_01.2.symm
      · rw [pk_un e, if_neg e, hcW2 k hk]; exact hW k hk
    · have hd : d < D.2.2.2.2.2.1 := hd
      show p d = (dCopy T D).1 d
      rw [hcP d hd]; exact (hPO d hd).1
    · have hd : d < D.2.2.2.2.2.1 := hd
      show w2 d = (dCopy T D).2.1 d
      rw [hcO d hd, hw2 d hd, (hPO d hd).2, if_neg fun h9 => ?_]
      rcases hO d hd with h1 | ⟨k, k1, k2, k3⟩
      · rw [h9] at h1; exact nI_n1' (by omega) h1
      · rw [h9, nI_eq (by omega) (by omega)] at k3
        subst k3; omega
    · have hd : d < D.2.2.2.2.2.1 := hd
      show ∃ k, 1 ≤ k ∧ k ≤ 9 ∧ (dCopy T D).1 d = nI k
      rw [hcP d hd]; exact hp d hd
    · have hd : d < D.2.2.2.2.2.1 := hd
      show (dCopy T D).2.1 d = -1 ∨ ∃ k, k < 6 ∧ (dCopy T D).2.1 d = nI k
      rw [hcO d hd]; exact (hO d hd).six
def w2F (w : Nat → Int32) (n m : Nat) : Nat → Int32 := itr n (fun j f => upd f j (if w j = nI m then -1 else w j)) (fun _ => 0)
theorem w2F_at {n m d : Nat} (hd : d < n) : w2F w n m d = if w d = nI m then -1 else w d := by
  have e := itr_at (f0 := fun _ => (0 : Int32)) (g := fun j f => upd f j (if w j = nI m then -1 else w j)) (v := fun j => if w j = nI m then -1 else w j) (fun _ _ => rfl) n d
  rw [if_pos hd] at e
  exact e
theorem sw_lsp {m : Nat} (h : RQ D M g p w q) (hm : m < 6) : ∃ pn, LsP D.2.2.2.2.2.1 (M ^^^ 2 ^ m) p (w2F w D.2.2.2.2.2.1 m) pn := by
  obtain ⟨pn, h1⟩ := (sw_lsd (T := D) h hm (w2 := w2F w D.2.2.2.2.2.1 m) fun d hd => w2F_at hd).lsp
  rw [sw_n] at h1
  exact ⟨pn, h1⟩
theorem sw_res {S : SS} {T : DS} {m : Nat} {gl : Nat → Int32} (h : RQ D M g p w q) (hm : m < 6) : shRes S (dSw T D m) = lsR D.2.2.2.2.2.1 (M ^^^ 2 ^ m) p (w2F w D.2.2.2.2.2.1 m) gl := by
  have h1 := ls_res (S := S) (gl := gl) (sw_lsd (T := T) h hm (w2 := w2F w D.2.2.2.2.2.1 m) fun d hd => w2F_at hd)
  rw [sw_n] at h1
  exact h1
end RQS

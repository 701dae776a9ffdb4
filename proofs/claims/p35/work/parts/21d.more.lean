/-! ===== answers that are doubles ===== -/
abbrev CD (l : Launch) (D : va_G) (tys : List (ClassId × FieldType)) (y : MethodName) (ws : List Cond) (rm : Room) (av : List Value) (gi : List va_W) (R0 : UInt64) (go : List va_W) : Prop :=
  ∀ sz : Nat, Met l y ws rm (cPre D tys av gi sz) (va_Qd (fun (r : UInt64) (_ : Unit) => r = R0) (fun _ => cB D tys (va_A (cat gi) sz) go) (va_A (cat gi) sz)) 0 0 (va_A (cat gi) sz)
section DBL
variable {l : Launch} {D : va_G} {tys : List (ClassId × FieldType)} {y : MethodName} {ws ws' : List Cond} {rm : Room} {av : List Value} {gi go : List va_W} {cc : ByteArray} {maxL : Nat} {ret : Option FieldType}
theorem wk_D {R0 : UInt64} (hy : plainName y.cls = true) (hw : ws = Cond.code y cc maxL ret :: ws') (hlen : (lg_sl av).length ≤ maxL)
    (body : wkBody l D tys y ws rm av gi cc maxL ret (fun A => va_Qd (fun (r : UInt64) (_ : Unit) => r = R0) (fun _ => cB D tys A go) A) 0 0) : CD l D tys y ws rm av gi R0 go := wk_of (Qa := fun A => va_Qd (fun (r : UInt64) (_ : Unit) => r = R0) (fun _ => cB D tys A go) A) hy hw hlen body
end DBL
section DBL2
variable {p : Program} {l : Launch} {e : Env} {R : Room} {s : State} {m : MethodId} {args : Array Value} {below : List Frame} {meth : Method} {c : Code} {H : Heap} {locs : List Loc} {cells slots : Nat} {Q : State → Prop}
variable {pc : Nat} {ls : Array Slot} {st0 rest As fs : List Value} {A0 : Nat → Prop} {D : va_G} {tys : List (ClassId × FieldType)} {y : MethodName} {ws Ts : List Cond} {rm : Room} {gs gi go : List va_W} {cc bytes : ByteArray} {maxL nL n index : Nat} {ret : Option FieldType} {own C : String} {b : Addr} {T : u_T} {N : Nat}
theorem gVd {R0 : UInt64} (fix : CallFix p m c cc nL s args Ts own) (hM : CD l D tys y ws rm (.ref b :: As) gi R0 go) (cw : CallW R s args own C index y bytes maxL ret ws rm 0 0 n)
    (hK : va_K D vwCl tys s) (hP : va_P D vwCl (cat gs) H) (hD : va_D A0 (cat gs)) (hS : va_S A0 s.heap H locs) (hA : ∀ q, s.heap.size ≤ q → A0 q)
    (is : List Nat) (hi : is.map (fun i => gs[i]?) = gi.map some) (hn : va_nd is = true) (hlen : gi.length = go.length) (q0 ci : Nat) (hc : vwCl[ci]? = some (C, T, N)) (he : (cat gi)[q0]? = some (b, .inr (ci, fs)))
    (hAs : As.length = n) (hsize : ls.size = nL) (hst : st0 = As.reverse ++ .ref b :: rest) (hW : (rest.map fun v => v.category).sum ≤ 8) (hdg : decode cc pc = .ok (.invokevirtual index, 3)) (hf : cells ≤ R.cells ∧ slots ≤ R.slots)
    (kk : ∀ (H1 : Heap) (locs1 : List Loc), va_P D vwCl (cat (sets gs is go)) H1 → va_D A0 (cat (sets gs is go)) → va_S A0 s.heap H1 locs1 → W p l e R s m args below meth c H1 locs1 cells slots Q (F0 m (pc + 3) ls (.double R0 :: rest))) :
    W p l e R s m args below meth c H locs cells slots Q (F0 m pc ls st0) := by
  have hPc := seg_P hP hn hi
  have hDc := seg_D hD hn hi
  have hFc := seg_F hD hS hA hn hi
  refine va_calld (va_runV (As := As) (rest := rest) fix (hM H.size) cw ⟨cPre_blind, va_recv hK hPc hc he, (gV_pre hPc hK hDc).2⟩ rfl hAs hsize hst (lv_room hW) hdg hf) hS (fun q _ h => hFc q h) hFc (fun r u t H1 locs1 ht hvm hw hB hz hk hS1 => ?_)
  obtain ⟨hP1, hK1, hD1⟩ := hB
  rw [ht] at hP1
  obtain ⟨hP2, hD2⟩ := seg_join hP hD hn hi hlen hk hFc hP1 hD1
  rw [hw]
  exact kk H1 locs1 hP2 hD2 hS1
theorem end_d {v R0 : UInt64} (hx : p.tables.exec = Jvm.exec) (hb : c.code = cc) (hr : meth.sig.returnType = some .double) (hlocks : meth.locks = false) (hK : va_K D vwCl tys s) (hP : va_P D vwCl (cat go) H) (hD : va_D A0 (cat go)) (hS : va_S A0 s.heap H locs) (hv : v = R0) (hdg : decode cc pc = .ok (.dreturn, 1)) :
    W p l e R s m args below meth c H locs cells slots (MQ below (va_Qd (fun (r : UInt64) (_ : Unit) => r = R0) (fun _ => cB D tys A0 go) A0) args s cells slots A0) (F0 m pc ls [.double v]) :=
  W.dret (v := v) hx hb hr (fun t ht hW => ⟨⟨v, (), rfl, hv, by rw [ht]; exact hP, va_K.moved hW.alike hK, hD⟩, hS.F ht⟩) hS.2.2 hdg hlocks
end DBL2
/-! ===== DoorstepRoundsModel: forecasts ===== -/
theorem div_ok_all : ∀ a, a < 21 → ∀ b, b < 21 → 0 < b → vf_n64 (FP.ddiv (FP.i2d (nI a)) (FP.i2d (nI b))) := by unfold vf_n64; decide +kernel
theorem div_ok {a b : Nat} (ha : a ≤ 20) (hb : b ≤ 20) (h0 : 0 < b) : vf_n64 (FP.ddiv (FP.i2d (nI a)) (FP.i2d (nI b))) := div_ok_all a (by omega) b (by omega) h0
/-! ===== counting ===== -/
def cnt (n : Nat) (P : Nat → Bool) : Nat := itr n (fun m x => if P m = true then x + 1 else x) 0
def sumN (n : Nat) (f : Nat → Nat) : Nat := itr n (fun m x => x + f m) 0
theorem cnt_s (n : Nat) (P : Nat → Bool) : cnt (n + 1) P = if P n = true then cnt n P + 1 else cnt n P := rfl
theorem sumN_s (n : Nat) (f : Nat → Nat) : sumN (n + 1) f = sumN n f + f n := rfl
theorem cnt_le (n : Nat) (P : Nat → Bool) : cnt n P ≤ n := by
  induction n with
  | zero => exact Nat.le_refl _
  | succ n ih => rw [cnt_s]; split <;> omega
theorem cnt_mono {n : Nat} {P Q : Nat → Bool} (h : ∀ o, o < n → P o = true → Q o = true) : cnt n P ≤ cnt n Q := by
  induction n with
  | zero => exact Nat.le_refl _
  | succ n ih =>
    have := ih (fun o ho => h o (by omega))
    rw [cnt_s, cnt_s]
    by_cases hp : P n = true
    · rw [if_pos hp, if_pos (h n (by omega) hp)]; omega
    · rw [if_neg hp]; split <;> omega
theorem cnt_strict {n m : Nat} {P Q : Nat → Bool} (h : ∀ o, o < n → P o = true → Q o = true) (hm : m < n) (hq : Q m = true) (hp : ¬ P m = true) : cnt n P < cnt n Q := by
  induction n with
  | zero => exact absurd hm (Nat.not_lt_zero _)
  | succ n ih =>
    rw [cnt_s, cnt_s]
    by_cases e : m = n
    · subst e
      rw [if_neg hp, if_pos hq]
      have := cnt_mono (n := m) (P := P) (Q := Q) (fun o ho => h o (by omega))
      omega
    · have := ih (fun o ho => h o (by omega)) (by omega)
      by_cases hpn : P n = true
      · rw [if_pos hpn, if_pos (h n (by omega) hpn)]; omega
      · rw [if_neg hpn]; split <;> omega
theorem cnt_miss {n : Nat} {P Q : Nat → Bool} (h : cnt n P < cnt n Q) : ∃ m, m < n ∧ Q m = true ∧ ¬ P m = true := by
  induction n with
  | zero => exact absurd h (Nat.lt_irrefl _)
  | succ n ih =>
    by_cases hc : Q n = true ∧ ¬ P n = true
    · exact ⟨n, by omega, hc⟩
    · have h2 : cnt n P < cnt n Q := by
        rw [cnt_s, cnt_s] at h
        by_cases hq : Q n = true
        · have hp : P n = true := by
            by_cases hp : P n = true
            · exact hp
            · exact absurd ⟨hq, hp⟩ hc
          rw [if_pos hq, if_pos hp] at h; omega
        · rw [if_neg hq] at h
          split at h <;> omega
      obtain ⟨m, h1, h3⟩ := ih h2
      exact ⟨m, by omega, h3⟩
theorem arg_max {n : Nat} (P : Nat → Bool) (K : Nat → Nat) (h : ∃ m, m < n ∧ P m = true) : ∃ m, m < n ∧ P m = true ∧ ∀ o, o < n → P o = true → K o ≤ K m := by
  induction n with
  | zero => obtain ⟨m, h1, -⟩ := h; exact absurd h1 (Nat.not_lt_zero _)
  | succ n ih =>
    by_cases hx : ∃ m, m < n ∧ P m = true
    · obtain ⟨m, h1, h2, h3⟩ := ih hx
      by_cases hc : P n = true ∧ K m < K n
      · refine ⟨n, by omega, hc.1, fun o ho hp => ?_⟩
        by_cases e : o = n
        · rw [e]; exact Nat.le_refl _
        · exact Nat.le_trans (h3 o (by omega) hp) (Nat.le_of_lt hc.2)
      · refine ⟨m, by omega, h2, fun o ho hp => ?_⟩
        by_cases e : o = n
        · subst e
          by_cases hk : K m < K o
          · exact absurd ⟨hp, hk⟩ hc
          · omega
        · exact h3 o (by omega) hp
    · obtain ⟨m, h1, h2⟩ := h
      have e : m = n := by
        by_cases e : m = n
        · exact e
        · exact absurd ⟨m, by omega, h2⟩ hx
      subst e
      refine ⟨m, by omega, h2, fun o ho hp => ?_⟩
      by_cases e : o = m
      · rw [e]; exact Nat.le_refl _
      · exact absurd ⟨o, by omega, hp⟩ hx
/-- ranks are 0, 1, 2 ..: at least r of the set S have a rank below r -/
theorem rank_cnt (n : Nat) (S : Nat → Bool) (K : Nat → Nat) : ∀ r, r ≤ cnt n S → r ≤ cnt n (fun m => S m && decide (cnt n (fun o => S o && decide (K m < K o)) < r))
  | 0, _ => Nat.zero_le _
  | r + 1, hr => by
    have ih := rank_cnt n S K r (by omega)
    have hmono : cnt n (fun m => S m && decide (cnt n (fun o => S o && decide (K m < K o)) < r)) ≤ cnt n (fun m => S m && decide (cnt n (fun o => S o && decide (K m < K o)) < r + 1)) :=
      cnt_mono (fun o _ h => by simp only [Bool.and_eq_true, decide_eq_true_eq] at h ⊢; exact ⟨h.1, by omega⟩)
    by_cases he : cnt n (fun m => S m && decide (cnt n (fun o => S o && decide (K m < K o)) < r)) = r
    · obtain ⟨m0, a1, a2, a3⟩ := cnt_miss (n := n) (P := fun m => S m && decide (cnt n (fun o => S o && decide (K m < K o)) < r)) (Q := S) (by omega)
      obtain ⟨m, b1, b2, b3⟩ := arg_max (n := n) (fun m => S m && !decide (cnt n (fun o => S o && decide (K m < K o)) < r)) K ⟨m0, a1, by
        simp only [Bool.and_eq_true, decide_eq_true_eq, not_and, Bool.not_eq_true'] at a3 ⊢
        exact ⟨a2, decide_eq_false (a3 a2)⟩⟩
      simp only [Bool.and_eq_true, Bool.not_eq_true', decide_eq_false_iff_not] at b2
      have hle : cnt n (fun o => S o && decide (K m < K o)) ≤ r := by
        have : cnt n (fun o => S o && decide (K m < K o)) ≤ cnt n (fun m => S m && decide (cnt n (fun o => S o && decide (K m < K o)) < r)) := by
          refine cnt_mono (fun o ho h => ?_)
          simp only [Bool.and_eq_true, decide_eq_true_eq] at h ⊢
          refine ⟨h.1, ?_⟩
          by_cases hx : cnt n (fun q => S q && decide (K o < K q)) < r
          · exact hx
          · have := b3 o ho (by simp only [Bool.and_eq_true, Bool.not_eq_true', decide_eq_false_iff_not]; exact ⟨h.1, hx⟩)
            omega
        omega
      have := cnt_strict (n := n) (m := m) (P := fun m => S m && decide (cnt n (fun o => S o && decide (K m < K o)) < r)) (Q := fun m => S m && decide (cnt n (fun o => S o && decide (K m < K o)) < r + 1))
        (fun o _ h => by simp only [Bool.and_eq_true, decide_eq_true_eq] at h ⊢; exact ⟨h.1, by omega⟩) b1 (by simp only [Bool.and_eq_true, decide_eq_true_eq]; exact ⟨b2.1, by omega⟩)
        (by simp only [Bool.and_eq_true, decide_eq_true_eq, not_and]; exact fun _ => b2.2)
      omega
    · omega
theorem sumN_congr {n : Nat} {f g : Nat → Nat} (h : ∀ m, m < n → f m = g m) : sumN n f = sumN n g := by
  induction n with
  | zero => rfl
  | succ n ih => rw [sumN_s, sumN_s, ih (fun m hm => h m (by omega)), h n (by omega)]
theorem sumN_le {n : Nat} {f g : Nat → Nat} (h : ∀ m, m < n → f m ≤ g m) : sumN n f ≤ sumN n g := by
  induction n with
  | zero => exact Nat.le_refl _
  | succ n ih => have := ih (fun m hm => h m (by omega)); have := h n (by omega); rw [sumN_s, sumN_s]; omega
theorem sumN_at {n m : Nat} {f : Nat → Nat} (hm : m < n) : f m ≤ sumN n f := by
  induction n with
  | zero => exact absurd hm (Nat.not_lt_zero _)
  | succ n ih =>
    rw [sumN_s]
    by_cases e : m = n
    · subst e; omega
    · have := ih (by omega); omega
theorem sumN_pos {n : Nat} {f : Nat → Nat} (h : 0 < sumN n f) : ∃ m, m < n ∧ 0 < f m := by
  induction n with
  | zero => exact absurd h (Nat.lt_irrefl _)
  | succ n ih =>
    by_cases hf : 0 < f n
    · exact ⟨n, by omega, hf⟩
    · rw [sumN_s] at h
      obtain ⟨m, h1, h2⟩ := ih (by omega)
      exact ⟨m, by omega, h2⟩
/-- one place one more -/
theorem sumN_inc {n m : Nat} {f g : Nat → Nat} (hm : m < n) (h1 : g m = f m + 1) (h2 : ∀ o, o < n → o ≠ m → g o = f o) : sumN n g = sumN n f + 1 := by
  induction n with
  | zero => exact absurd hm (Nat.not_lt_zero _)
  | succ n ih =>
    rw [sumN_s, sumN_s]
    by_cases e : m = n
    · subst e
      rw [sumN_congr (g := f) (fun o ho => h2 o (by omega) (by omega)), h1]; omega
    · rw [ih (by omega) (fun o ho => h2 o (by omega)), h2 n (by omega) (fun e2 => e e2.symm)]; omega
theorem sumN_sub (n : Nat) (q g : Nat → Nat) : sumN n q ≤ sumN n (fun m => q m - g m) + sumN n g := by
  induction n with
  | zero => exact Nat.le_refl _
  | succ n ih => rw [sumN_s, sumN_s, sumN_s]; omega
theorem sumN_split (n : Nat) (W B : Nat → Bool) (a : Nat) : sumN n (fun m => if W m = true then (if B m = true then a + 1 else a) else 0) = a * cnt n W + cnt n (fun m => W m && B m) := by
  induction n with
  | zero => rfl
  | succ n ih =>
    rw [sumN_s, cnt_s, cnt_s, ih]
    cases hW : W n <;> cases hB : B n <;> simp [Nat.mul_add] <;> omega
def undN (g : Nat → Int32) (n : Nat) : Nat := itr n (fun d x => if 0 ≤ g d then x else x + 1) 0
theorem undN_s (g : Nat → Int32) (n : Nat) : undN g (n + 1) = if 0 ≤ g n then undN g n else undN g n + 1 := rfl
theorem undN_le (g : Nat → Int32) (n : Nat) : undN g n ≤ n := by
  induction n with
  | zero => exact Nat.le_refl _
  | succ n ih => rw [undN_s]; generalize undN g n = x at ih ⊢; split <;> omega
theorem undN_off {g : Nat → Int32} {d n : Nat} {v : Int32} (h : n ≤ d) : undN (upd g d v) n = undN g n := by
  induction n with
  | zero => exact (show (0 : Nat) = 0 from rfl)
  | succ n ih =>
    have h1 := ih (by omega)
    have e : upd g d v n = g n := pk_un (show n ≠ d by omega)
    rw [undN_s, undN_s]
    generalize undN g n = x at h1 ⊢
    generalize undN (upd g d v) n = y at h1 ⊢
    subst h1
    rw [e]
theorem undN_put {g : Nat → Int32} {d n : Nat} {v : Int32} (h : d < n) (h0 : ¬ 0 ≤ g d) (hv : 0 ≤ v) : undN (upd g d v) n + 1 = undN g n := by
  induction n with
  | zero => exact absurd h (Nat.not_lt_zero _)
  | succ n ih =>
    rw [undN_s, undN_s]
    by_cases e : d = n
    · subst e
      rw [undN_off (Nat.le_refl _), pk_us, if_pos hv, if_neg h0]
    · rw [pk_un (show n ≠ d by omega), ← ih (by omega)]
      split <;> rfl

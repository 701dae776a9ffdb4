/-! ===== words for values, rows and loops ===== -/
abbrev TY (cyI cyO : ClassId) : List (ClassId × FieldType) := [(cyI, .int), (cyO, .object "DoorstepRounds$Dairy")]
def bI (b : Bool) : Int32 := if b = true then 1 else 0
theorem bI_z {b : Bool} : bI b = 0 ↔ b = false := by cases b <;> decide
theorem bI_nz {b : Bool} : ¬ bI b = 0 ↔ b = true := by cases b <;> decide
theorem bI_01 (b : Bool) : bI b = 0 ∨ bI b = 1 := by cases b <;> decide
theorem bI_t {b : Bool} (h : b = true) : (1 : Int32) = bI b := by subst h; rfl
theorem bI_f {b : Bool} (h : b = false) : (0 : Int32) = bI b := by subst h; rfl
/-- a loop's state after its first n rounds -/
def itr {σ : Type} : Nat → (Nat → σ → σ) → σ → σ
  | 0, _, a => a
  | n + 1, f, a => f n (itr n f a)
theorem itr_congr {σ : Type} {f g : Nat → σ → σ} : ∀ (n : Nat) (a : σ), (∀ i, i < n → ∀ x, f i x = g i x) → itr n f a = itr n g a
  | 0, _, _ => rfl
  | n + 1, a, h => by
    show f n (itr n f a) = g n (itr n g a)
    rw [itr_congr n a (fun i hi x => h i (by omega) x), h n (by omega)]
def rowW (cyI : ClassId) (r a n : Nat) (f : Nat → Int32) : va_W := [(r, .inr (3, [.ref a])), (a, .inl (cyI, n, .inl f))]
section WORDS
variable {p : Program} {l : Launch} {e : Env} {R : Room} {s : State} {m : MethodId} {args : Array Value} {below : List Frame} {meth : Method} {c : Code} {H : Heap} {locs : List Loc} {cells slots : Nat} {Q : State → Prop}
variable {pc : Nat} {ls : Array Slot} {rest : List Value} {cc : ByteArray} {D : va_G} {cl : List vw_C} {tys : List (ClassId × FieldType)} {ws : va_W} {a : Nat} {A : Nat → Prop} {H0 : Heap}
theorem W_loop {α : Type} {I : α → Heap → List Loc → Array Slot → Prop} {μ : α → Nat} {st : α → List Value}
    (body : ∀ a : α, (∀ b : α, μ b < μ a → ∀ H locs ls, I b H locs ls → W p l e R s m args below meth c H locs cells slots Q (F0 m pc ls (st b))) → ∀ H locs ls, I a H locs ls → W p l e R s m args below meth c H locs cells slots Q (F0 m pc ls (st a))) :
    ∀ (a : α) (H : Heap) (locs : List Loc) (ls : Array Slot), I a H locs ls → W p l e R s m args below meth c H locs cells slots Q (F0 m pc ls (st a)) := by
  have key : ∀ (n : Nat) (a : α), μ a < n → ∀ H locs ls, I a H locs ls → W p l e R s m args below meth c H locs cells slots Q (F0 m pc ls (st a)) := by
    intro n
    induction n with
    | zero => intro a h; exact absurd h (Nat.not_lt_zero _)
    | succ n ih => intro a h; exact body a (fun b hb => ih b (by omega))
  exact fun a => key (μ a + 1) a (Nat.lt_succ_self _)
theorem r_ild (hexec : p.tables.exec = Jvm.exec) (hb : c.code = cc) (hK : va_K D cl tys s) (hP : va_P D cl ws H) (q0 t0 : Nat) {cA : ClassId} {k n : Nat} {f : Nat → Int32} (ha : ws[q0]? = some (a, .inl (cA, n, .inl f))) (ht : tys[t0]? = some (cA, .int)) (hk : k < n) (hn : n < 2147483648) {i : Int32} (hi : i = nI k) (hdg : decode cc pc = .ok (.iaload, 1))
    (kk : W p l e R s m args below meth c H locs cells slots Q (F0 m (pc + 1) ls (.int (f k) :: rest))) : W p l e R s m args below meth c H locs cells slots Q (F0 m pc ls (.int i :: .ref a :: rest)) := by
  subst hi
  refine va_iald hexec hb hK hP q0 t0 ha ht (vp_in_nI hk (by omega)) hdg ?_
  rw [nI_clamp (by omega)]
  exact kk
theorem r_ist (hexec : p.tables.exec = Jvm.exec) (hb : c.code = cc) (hK : va_K D cl tys s) (hP : va_P D cl ws H) (hD : va_D A ws) (hS : va_S A H0 H locs) (q0 t0 : Nat) {cA : ClassId} {k n : Nat} {f : Nat → Int32} (ha : ws[q0]? = some (a, .inl (cA, n, .inl f))) (ht : tys[t0]? = some (cA, .int)) (hk : k < n) (hn : n < 2147483648) {i x : Int32} (hi : i = nI k) (hdg : decode cc pc = .ok (.iastore, 1))
    (kk : ∀ (H1 : Heap) (locs1 : List Loc), va_P D cl (ws.set q0 (a, .inl (cA, n, .inl (upd f k x)))) H1 → va_D A (ws.set q0 (a, .inl (cA, n, .inl (upd f k x)))) → va_S A H0 H1 locs1 → W p l e R s m args below meth c H1 locs1 cells slots Q (F0 m (pc + 1) ls rest)) : W p l e R s m args below meth c H locs cells slots Q (F0 m pc ls (.int x :: .int i :: .ref a :: rest)) := by
  subst hi
  refine va_iast hexec hb hK hP hD hS q0 t0 ha ht (vp_in_nI hk (by omega)) hdg (fun H1 locs1 h1 h2 h3 => ?_)
  rw [nI_clamp (by omega)] at h1 h2
  exact kk H1 locs1 h1 h2 h3
end WORDS
theorem in_of {x : Int32} {n : Nat} (hn : n < 2147483648) (h0 : ¬ x < 0) (h1 : ¬ nI n ≤ x) : vp_in x n := by
  intro h
  rcases h with h | h
  · exact h0 h
  · obtain ⟨j, hj, rfl⟩ := nI_of h0
    rw [nI_clamp hj] at h
    exact h1 (nI_le h hj)
/-! ===== what a row answers: outside it NONE, and writing there does nothing ===== -/
def rowAt (f : Nat → Int32) (n : Nat) (x : Int32) : Int32 := if x < 0 then -1 else if nI n ≤ x then -1 else f x.toNatClampNeg
def rowPut (f : Nat → Int32) (n : Nat) (x v : Int32) : Nat → Int32 := if x < 0 then f else if nI n ≤ x then f else upd f x.toNatClampNeg v
def rowInc (f : Nat → Int32) (n : Nat) (x v : Int32) : Nat → Int32 := if x < 0 then f else if nI n ≤ x then f else upd f x.toNatClampNeg (f x.toNatClampNeg + v)
theorem rowAt_in {f : Nat → Int32} {n k : Nat} (h : k < n) (hn : n < 2147483648) : rowAt f n (nI k) = f k := by
  unfold rowAt
  rw [if_neg (nI_pos (by omega)), if_neg (nI_ge h (by omega)), nI_clamp (by omega)]
theorem rowPut_in {f : Nat → Int32} {n k : Nat} {v : Int32} (h : k < n) (hn : n < 2147483648) : rowPut f n (nI k) v = upd f k v := by
  unfold rowPut
  rw [if_neg (nI_pos (by omega)), if_neg (nI_ge h (by omega)), nI_clamp (by omega)]
theorem rowInc_in {f : Nat → Int32} {n k : Nat} {v : Int32} (h : k < n) (hn : n < 2147483648) : rowInc f n (nI k) v = upd f k (f k + v) := by
  unfold rowInc
  rw [if_neg (nI_pos (by omega)), if_neg (nI_ge h (by omega)), nI_clamp (by omega)]

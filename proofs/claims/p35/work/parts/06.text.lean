/-! ===== DoorstepRounds$ChangeText ===== -/
abbrev TS : Type := (Nat → Int32) × Nat
def ctW (cyI : ClassId) (A : Nat → Nat) (T : TS) : va_W := (A 0, .inr (0, [.ref (A 1), .int (nI T.2)])) :: rowW cyI (A 1) (A 2) 60 T.1
def isDig (c lo hi : Int32) : Bool := !decide (c < lo) && !decide (hi < c)
def rSep (c : Int32) : Int32 := if c = 59 then 0 else -1
def rKind (c : Int32) : Int32 := if c = 43 then 1 else if c = 45 then 2 else if c = 99 then 4 else if c = 100 then 5 else if c = 104 then 5 else if c = 108 then 4 else if c = 112 then 5 else if c = 120 then 5 else -1
def rDoor (c : Int32) : Int32 := if isDig c 48 57 = true then (if c = 49 then 3 else 5) else -1
def rNext (x c : Int32) : Int32 := if x = 0 then rKind c else if x = 1 then (if isDig c 49 57 = true then 5 else -1) else if x = 2 then rDoor c else if x = 3 then (if isDig c 48 57 = true then 5 else rSep c) else if x = 4 then (if isDig c 48 53 = true then 5 else -1) else if x = 5 then rSep c else -1
def ctAt (T : TS) (k : Nat) : Int32 := if k < T.2 then T.1 k else 59
def ctScan (f : Nat → Int32) (n : Nat) : Int32 := itr n (fun j x => rNext x (f j)) 0
/-- the first place from i on, k places long, where P holds, else the place behind -/
def lsf (P : Nat → Bool) : Nat → Nat → Nat
  | i, 0 => i
  | i, k + 1 => if P i = true then i else lsf P (i + 1) k
theorem lsf_no {P : Nat → Bool} {i n : Nat} (h : i < n) (hp : ¬ P i = true) : lsf P i (n - i) = lsf P (i + 1) (n - (i + 1)) := by
  obtain ⟨k, hk⟩ : ∃ k, n - i = k + 1 := ⟨n - i - 1, by omega⟩
  rw [hk, show n - (i + 1) = k by omega]
  exact if_neg hp
theorem lsf_yes {P : Nat → Bool} {i n : Nat} (h : i < n) (hp : P i = true) : lsf P i (n - i) = i := by
  obtain ⟨k, hk⟩ : ∃ k, n - i = k + 1 := ⟨n - i - 1, by omega⟩
  rw [hk]
  exact if_pos hp
def ctErr (T : TS) : Nat := lsf (fun j => decide (ctScan T.1 (j + 1) = -1)) 0 T.2
def ctFull (T : TS) : Bool := decide (ctScan T.1 T.2 = 5) || decide (ctScan T.1 T.2 = 3)
theorem rNext_bad (c : Int32) : rNext (-1) c = -1 := by
  unfold rNext
  rw [if_neg (by decide), if_neg (by decide), if_neg (by decide), if_neg (by decide), if_neg (by decide), if_neg (by decide)]
theorem ctScan_bad {f : Nat → Int32} {i n : Nat} (h : i ≤ n) (he : ctScan f i = -1) : ctScan f n = -1 := by
  obtain ⟨k, rfl⟩ : ∃ k, n = i + k := ⟨n - i, by omega⟩
  induction k with
  | zero => exact he
  | succ k ih =>
    show rNext (ctScan f (i + k)) (f (i + k)) = -1
    rw [ih (by omega), rNext_bad]
theorem tab_out5 {x : Int32} (h0 : ¬ x = 0) (h1 : ¬ x = 1) (h2 : ¬ x = 2) (h3 : ¬ x = 3) (h4 : ¬ x = 4) (h5 : ¬ x = 5) : x.toInt < 0 ∨ 5 < x.toInt := by
  rw [← Int32.toInt_inj] at h0 h1 h2 h3 h4 h5
  have e : (0 : Int32).toInt = 0 ∧ (1 : Int32).toInt = 1 ∧ (2 : Int32).toInt = 2 ∧ (3 : Int32).toInt = 3 ∧ (4 : Int32).toInt = 4 ∧ (5 : Int32).toInt = 5 := by decide
  rw [e.1] at h0; rw [e.2.1] at h1; rw [e.2.2.1] at h2; rw [e.2.2.2.1] at h3; rw [e.2.2.2.2.1] at h4; rw [e.2.2.2.2.2] at h5
  omega
theorem lo_ne {x : Int32} {n o df : Int} {r : List (Int × Int)} (h : ¬ x = Int32.ofInt n) (hn : (Int32.ofInt n).toInt = n) : Op.lookupswitch.offset ((n, o) :: r) df x.toInt = Op.lookupswitch.offset r df x.toInt :=
  if_neg (fun e => h (Int32.toInt_inj.mp (e.symm.trans hn.symm)))
theorem i32_ne {x : Int32} {n : Int} (h : ¬ x = Int32.ofInt n) (hn : (Int32.ofInt n).toInt = n) : ¬ x.toInt = n := fun e => h (Int32.toInt_inj.mp (e.trans hn.symm))


/-! ===== DoorstepRoundsModel: the plan ===== -/
abbrev MS : Type := Int32 × (Nat → Int32) × (Nat → Int32) × Nat × (Nat → Int32) × Nat × (Nat → Int32) × (Nat → Int32) × (Nat → Int32) × (Nat → Int32) × Int32 × Int32
def mdW (cyI : ClassId) (A : Nat → Nat) (M : MS) : va_W := [(A 0, .inr (6, [.int M.1, .ref (A 1), .ref (A 2), .int (nI M.2.2.2.1), .ref (A 3), .int (nI M.2.2.2.2.2.1), .ref (A 4), .ref (A 5), .ref (A 6), .ref (A 7), .int M.2.2.2.2.2.2.2.2.2.2.1, .int M.2.2.2.2.2.2.2.2.2.2.2])),
  (A 1, .inl (cyI, 91, .inl M.2.1)), (A 2, .inl (cyI, 546, .inl M.2.2.1)), (A 3, .inl (cyI, 60, .inl M.2.2.2.2.1)), (A 4, .inl (cyI, 20, .inl M.2.2.2.2.2.2.1)), (A 5, .inl (cyI, 6, .inl M.2.2.2.2.2.2.2.1)), (A 6, .inl (cyI, 6, .inl M.2.2.2.2.2.2.2.2.1)), (A 7, .inl (cyI, 6, .inl M.2.2.2.2.2.2.2.2.2.1))]
def zO (z : Nat → Int32) (d : Nat) : Int32 := z (21 + d)
def zP (z : Nat → Int32) (d : Nat) : Int32 := z (1 + d)
def zW (z : Nat → Int32) (m : Nat) : Int32 := z (81 + m)
/-- what always holds of the model's row: n doorsteps, who is at work, to whom they belong -/
def MI (z : Nat → Int32) (n : Nat) : Prop := z 0 = nI n ∧ n ≤ 20 ∧ (∀ m, m < 6 → z (81 + m) = 0 ∨ z (81 + m) = 1) ∧ (∀ d, d < n → z (21 + d) = -1 ∨ ∃ k, k < 6 ∧ z (21 + d) = nI k)
def oI (b : Option Nat) : Int32 := match b with
  | none => -1
  | some k => nI k
theorem oI_neg {b : Option Nat} (hb : ∀ j, b = some j → j < 2147483648) (h : oI b < 0) : b = none := by
  cases b with
  | none => rfl
  | some j => exact absurd h (nI_pos (hb j rfl))
theorem oI_pos {b : Option Nat} (h : ¬ oI b < 0) : ∃ j, b = some j := by
  cases b with
  | none => exact absurd (by decide) h
  | some j => exact ⟨j, rfl⟩
theorem own_nat {w : Int32} (h : w = -1 ∨ ∃ k, k < 6 ∧ w = nI k) (h0 : ¬ w < 0) : ∃ k, k < 6 ∧ w = nI k := by
  rcases h with rfl | h
  · exact absurd (by decide) h0
  · exact h
theorem men_step {z : Nat → Int32} {i x : Nat} (h : z (81 + i) = 0 ∨ z (81 + i) = 1) : nI x + z (81 + i) = nI (cwStep (zW z) i x) := by
  unfold cwStep zW
  rcases h with h | h
  · rw [h, if_neg (by decide)]; exact nI_add x 0
  · rw [h, if_pos rfl]; exact nI_add x 1
theorem cW_pos_aux {W : Nat → Int32} {m : Nat} (h : W m = 1) : ∀ n, m < n → 0 < itr n (cwStep W) 0
  | 0, hl => absurd hl (Nat.not_lt_zero _)
  | n + 1, hl => by
    show 0 < cwStep W n (itr n (cwStep W) 0)
    unfold cwStep
    by_cases e : m = n
    · subst e; rw [if_pos h]; exact Nat.succ_pos _
    · have := cW_pos_aux h n (by omega)
      split <;> (unfold cwStep at this; omega)
theorem cW_pos {W : Nat → Int32} {m : Nat} (hm : m < 6) (h : W m = 1) : 0 < cW W := cW_pos_aux h 6 hm
def mHas (n : Nat) (x : Int32) : Bool := isDig x 0 (nI n - 1)
def recA (z f : Nat → Int32) (s : Nat) : (Nat → Int32) × Nat := if s = 6 then (itr 91 (fun k g => upd g (91 * 5 + k) (z k)) (itr 455 (fun k g => upd g k (g (91 + k))) f), 5 + 1) else (itr 91 (fun k g => upd g (91 * s + k) (z k)) f, s + 1)
def mAhead (z : Nat → Int32) (n k j : Nat) : Bool := decide (rSz (zO z) n (nI j) < rSz (zO z) n (nI k)) || (decide (rSz (zO z) n (nI k) = rSz (zO z) n (nI j)) && decide (k < j))
def mDear (z : Nat → Int32) (k j : Nat) : Bool := decide (z (1 + j) < z (1 + k)) || (decide (z (1 + k) = z (1 + j)) && decide (k < j))
def ahStep (z : Nat → Int32) (n m o x : Nat) : Nat := if z (81 + o) = 1 then (if mAhead z n o m = true then x + 1 else x) else x
def mAhd (z : Nat → Int32) (n m : Nat) : Nat := itr 6 (ahStep z n m) 0
def mQuo (z : Nat → Int32) (n m : Nat) : Nat := if z (81 + m) = 1 then (if n % cW (zW z) ≤ mAhd z n m then n / cW (zW z) else n / cW (zW z) + 1) else 0
abbrev M3 : Type := (Nat → Int32) × (Nat → Int32) × (Nat → Int32)
def fqStep (z : Nat → Int32) (n m : Nat) (q : M3) : M3 := (upd q.1 m (nI (mQuo z n m)), upd q.2.1 m 0, upd q.2.2 m 0)
def gvM (z : Nat → Int32) (d m : Nat) (q : M3) : M3 := (upd q.1 d (nI m), upd q.2.1 m (q.2.1 m + 1), upd q.2.2 m (q.2.2 m + z (1 + d)))
def kaStep (z : Nat → Int32) (y : Int32) (d o x : Nat) : Nat := if z (21 + o) = y then (if mDear z o d = true then x + 1 else x) else x
def kaAll (z : Nat → Int32) (n : Nat) (y : Int32) (d : Nat) : Nat := itr n (kaStep z y d) 0
def koStep (z : Nat → Int32) (n : Nat) (Q : Nat → Int32) (d : Nat) (q : M3) : M3 :=
  if z (21 + d) < 0 then (upd q.1 d (-1), q.2) else if Q (z (21 + d)).toNatClampNeg ≤ nI (kaAll z n (z (21 + d)) d) then (upd q.1 d (-1), q.2) else gvM z d (z (21 + d)).toNatClampNeg (upd q.1 d (-1), q.2)
def koAll (z : Nat → Int32) (n : Nat) (Q : Nat → Int32) (q : M3) : M3 := itr n (koStep z n Q) q
def ndStep (z g : Nat → Int32) (d : Nat) (b : Option Nat) : Option Nat := if 0 ≤ g d then b else (match b with
  | none => some d
  | some j => if mDear z d j = true then some d else some j)
def ndAll (z g : Nat → Int32) (n : Nat) : Option Nat := itr n (ndStep z g) none
def nmStep (Q v p : Nat → Int32) (m : Nat) (b : Option Nat) : Option Nat := if Q m ≤ v m then b else (match b with
  | none => some m
  | some j => if p j ≤ p m then some j else some m)
def nmAll (Q v p : Nat → Int32) : Option Nat := itr 6 (nmStep Q v p) none

abbrev rm_X6_in : Room := { frames := 0, cells := 0, slots := 0, locals := 0 }
set_option maxHeartbeats 4000000 in
set_option maxRecDepth 100000 in
theorem c_X6_in (l : Launch) (G : va_G) (cyI cyO : ClassId) (v lo hi : Int32) : CI l G (TY cyI cyO) yX6_in wsX6_in rm_X6_in [.int (v), .int (lo), .int (hi)] [] (bI (isDig v lo hi)) [] := by
  refine wk_I (cc := cX6_in) (maxL := 3) (ret := (some .boolean)) (by decide) rfl (Nat.le_of_ble_eq_true rfl) ?_
  intro p9 e9 s9 m9 b9 t9 c9 A9 ls hx hb hr hts hown hlocks hml hK hA hD hP hl hS hnm
  have hl : lv_has ls 3 [(0, .int (v)), (1, .int (lo)), (2, .int (hi))] := hl
  refine lv_iload_n hx hb dX6_in_0 rfl (lv_at hl 0 rfl) ?_
  refine lv_iload_n hx hb dX6_in_1 rfl (lv_at hl 1 rfl) ?_
  refine lv_icmp_lt (tgt := 14) hx hb dX6_in_2 (by decide) (fun c_2 => ?_) (fun c_2 => ?_)
  · refine lv_iconst (v := (0 : Int32)) hx hb dX6_in_14 (by decide) ?_
    have hP : va_P G vwCl (cat []) s9.heap := hP
    have hD : va_D A9 (cat []) := hD
    exact end_z hx hb hr hlocks hK hP hD hS (by simp [isDig, bI, c_2]) (Or.inl rfl) dX6_in_15
  · refine lv_iload_n hx hb dX6_in_5 rfl (lv_at hl 0 rfl) ?_
    refine lv_iload_n hx hb dX6_in_6 rfl (lv_at hl 2 rfl) ?_
    refine lv_icmp_gt (tgt := 14) hx hb dX6_in_7 (by decide) (fun c_7 => ?_) (fun c_7 => ?_)
    · refine lv_iconst (v := (0 : Int32)) hx hb dX6_in_14 (by decide) ?_
      have hP : va_P G vwCl (cat []) s9.heap := hP
      have hD : va_D A9 (cat []) := hD
      exact end_z hx hb hr hlocks hK hP hD hS (by simp [isDig, bI, c_2, c_7]) (Or.inl rfl) dX6_in_15
    · refine lv_iconst (v := (1 : Int32)) hx hb dX6_in_10 (by decide) ?_
      refine lv_goto (tgt := 15) hx hb dX6_in_11 (by decide) ?_
      have hP : va_P G vwCl (cat []) s9.heap := hP
      have hD : va_D A9 (cat []) := hD
      exact end_z hx hb hr hlocks hK hP hD hS (by simp [isDig, bI, c_2, c_7]) (Or.inr rfl) dX6_in_15
abbrev rm_X6_isMan : Room := { frames := 1, cells := 0, slots := 0, locals := 22 }
set_option maxHeartbeats 4000000 in
set_option maxRecDepth 100000 in
theorem c_X6_isMan (l : Launch) (G : va_G) (cyI cyO : ClassId) (x : Int32) : CI l G (TY cyI cyO) yX6_isMan wsX6_isMan rm_X6_isMan [.int (x)] [] (bI (isDig x 0 5)) [] := by
  refine wk_I (cc := cX6_isMan) (maxL := 1) (ret := (some .boolean)) (by decide) rfl (Nat.le_of_ble_eq_true rfl) ?_
  intro p9 e9 s9 m9 b9 t9 c9 A9 ls hx hb hr hts hown hlocks hml hK hA hD hP hl hS hnm
  have hl : lv_has ls 1 [(0, .int (x))] := hl
  refine lv_iload_n hx hb dX6_isMan_0 rfl (lv_at hl 0 rfl) ?_
  refine lv_iconst (v := (0 : Int32)) hx hb dX6_isMan_1 (by decide) ?_
  refine lv_iconst (v := (5 : Int32)) hx hb dX6_isMan_2 (by decide) ?_
  refine gSi (gs := []) (As := [.int (x), .int ((0 : Int32)), .int ((5 : Int32))]) (rest := []) ⟨hx, hb, hml, hown, hts⟩ (c_X6_in l G cyI cyO x ((0 : Int32)) ((5 : Int32))) (va_cwS 3 hts gX6_isMan_X6_in rfl rfl rfl (by decide +kernel) ⟨Nat.le_of_ble_eq_true rfl, Nat.le_of_ble_eq_true rfl⟩) hK hP hD hS hA [] rfl rfl rfl rfl hl.1 rfl (Nat.le_of_ble_eq_true rfl) dX6_isMan_3 ⟨Nat.le_refl _, Nat.le_refl _⟩ (fun H locs hP hD hS => ?_)
  have hP : va_P G vwCl (cat []) H := hP
  have hD : va_D A9 (cat []) := hD
  have hP : va_P G vwCl (cat []) H := hP
  have hD : va_D A9 (cat []) := hD
  exact end_z hx hb hr hlocks hK hP hD hS (rfl) (bI_01 _) dX6_isMan_6
abbrev rm_X6_isDoor : Room := { frames := 1, cells := 0, slots := 0, locals := 22 }
set_option maxHeartbeats 4000000 in
set_option maxRecDepth 100000 in
theorem c_X6_isDoor (l : Launch) (G : va_G) (cyI cyO : ClassId) (A : Nat → Nat) (M : MS) (n : Nat) (hM : MI M.2.1 n) (x : Int32) : CI l G (TY cyI cyO) yX6_isDoor wsX6_isDoor rm_X6_isDoor [.ref (A 0), .int (x)] [mdW cyI A M] (bI (mHas n x)) [mdW cyI A M] := by
  refine wk_I (cc := cX6_isDoor) (maxL := 2) (ret := (some .boolean)) (by decide) rfl (Nat.le_of_ble_eq_true rfl) ?_
  intro p9 e9 s9 m9 b9 t9 c9 A9 ls hx hb hr hts hown hlocks hml hK hA hD hP hl hS hnm
  have hl : lv_has ls 2 [(0, .ref (A 0)), (1, .int (x))] := hl
  have hinX6 : ∀ w ∈ wsX60, w ∈ wsX6_isDoor := by decide +kernel
  have hf7 := hts (.fieldLink RX6 7 "DoorstepRoundsModel" "z" "[I") (by decide +kernel)
  have hz : M.2.1 0 = nI n := hM.1
  have hn : n ≤ 20 := hM.2.1
  have hWk := hM.2.2.1
  have hOw := hM.2.2.2
  refine lv_iload_n hx hb dX6_isDoor_0 rfl (lv_at hl 1 rfl) ?_
  refine lv_iconst (v := (0 : Int32)) hx hb dX6_isDoor_1 (by decide) ?_
  refine lv_aload_n hx hb dX6_isDoor_2 rfl (lv_at hl 0 rfl) ?_
  refine va_get (v := .ref (A 1)) (C := RX6) (T := TX6) (N := 12) hx hb hts hinX6 hown hK hP 0 rfl rfl 1 (by decide) hf7 (fun _ h9 => h9) rfl dX6_isDoor_3 ?_
  refine lv_iconst (v := (0 : Int32)) hx hb dX6_isDoor_6 (by decide) ?_
  refine r_ild (k := 0) (n := 91) (f := M.2.1) hx hb hK hP 1 0 rfl rfl (by omega) (by omega) rfl dX6_isDoor_7 ?_
  refine top_i (x' := nI (n)) (hz) ?_
  refine lv_iconst (v := (1 : Int32)) hx hb dX6_isDoor_8 (by decide) ?_
  refine lv_isub hx hb dX6_isDoor_9 ?_
  refine gSi (gs := [mdW cyI A M]) (As := [.int (x), .int ((0 : Int32)), .int ((nI (n)) - ((1 : Int32)))]) (rest := []) ⟨hx, hb, hml, hown, hts⟩ (c_X6_in l G cyI cyO x ((0 : Int32)) ((nI (n)) - ((1 : Int32)))) (va_cwS 3 hts gX6_isDoor_X6_in rfl rfl rfl (by decide +kernel) ⟨Nat.le_of_ble_eq_true rfl, Nat.le_of_ble_eq_true rfl⟩) hK hP hD hS hA [] rfl rfl rfl rfl hl.1 rfl (Nat.le_of_ble_eq_true rfl) dX6_isDoor_10 ⟨Nat.le_refl _, Nat.le_refl _⟩ (fun H locs hP hD hS => ?_)
  have hP : va_P G vwCl (cat [mdW cyI A M]) H := hP
  have hD : va_D A9 (cat [mdW cyI A M]) := hD
  have hP : va_P G vwCl (cat [mdW cyI A M]) H := hP
  have hD : va_D A9 (cat [mdW cyI A M]) := hD
  exact end_z hx hb hr hlocks hK hP hD hS (rfl) (bI_01 _) dX6_isDoor_13
abbrev rm_X6_works : Room := { frames := 0, cells := 0, slots := 0, locals := 0 }
set_option maxHeartbeats 4000000 in
set_option maxRecDepth 100000 in
theorem c_X6_works (l : Launch) (G : va_G) (cyI cyO : ClassId) (A : Nat → Nat) (M : MS) (n : Nat) (hM : MI M.2.1 n) (k : Nat) (hk : k < 6) : CI l G (TY cyI cyO) yX6_works wsX6_works rm_X6_works [.ref (A 0), .int (nI (k))] [mdW cyI A M] (bI (decide (M.2.1 (81 + k) = 1))) [mdW cyI A M] := by
  refine wk_I (cc := cX6_works) (maxL := 2) (ret := (some .boolean)) (by decide) rfl (Nat.le_of_ble_eq_true rfl) ?_
  intro p9 e9 s9 m9 b9 t9 c9 A9 ls hx hb hr hts hown hlocks hml hK hA hD hP hl hS hnm
  have hl : lv_has ls 2 [(0, .ref (A 0)), (1, .int (nI (k)))] := hl
  have hinX6 : ∀ w ∈ wsX60, w ∈ wsX6_works := by decide +kernel
  have hf7 := hts (.fieldLink RX6 7 "DoorstepRoundsModel" "z" "[I") (by decide +kernel)
  have hz : M.2.1 0 = nI n := hM.1
  have hn : n ≤ 20 := hM.2.1
  have hWk := hM.2.2.1
  have hOw := hM.2.2.2
  refine lv_aload_n hx hb dX6_works_0 rfl (lv_at hl 0 rfl) ?_
  refine va_get (v := .ref (A 1)) (C := RX6) (T := TX6) (N := 12) hx hb hts hinX6 hown hK hP 0 rfl rfl 1 (by decide) hf7 (fun _ h9 => h9) rfl dX6_works_1 ?_
  refine lv_bipush (v := (81 : Int32)) hx hb dX6_works_4 (by decide) ?_
  refine lv_iload_n hx hb dX6_works_6 rfl (lv_at hl 1 rfl) ?_
  refine lv_iadd hx hb dX6_works_7 ?_
  refine top_i (x' := nI (81 + k)) (nI_add (81) (k)) ?_
  refine r_ild (k := 81 + k) (n := 91) (f := M.2.1) hx hb hK hP 1 0 rfl rfl (by omega) (by omega) rfl dX6_works_8 ?_
  refine lv_iconst (v := (1 : Int32)) hx hb dX6_works_9 (by decide) ?_
  refine lv_icmp_ne (tgt := 17) hx hb dX6_works_10 (by decide) (fun c_10 => ?_) (fun c_10 => ?_)
  · refine lv_iconst (v := (0 : Int32)) hx hb dX6_works_17 (by decide) ?_
    have hP : va_P G vwCl (cat [mdW cyI A M]) s9.heap := hP
    have hD : va_D A9 (cat [mdW cyI A M]) := hD
    exact end_z hx hb hr hlocks hK hP hD hS (by simp [bI, c_10]) (Or.inl rfl) dX6_works_18
  · refine lv_iconst (v := (1 : Int32)) hx hb dX6_works_13 (by decide) ?_
    refine lv_goto (tgt := 18) hx hb dX6_works_14 (by decide) ?_
    have hP : va_P G vwCl (cat [mdW cyI A M]) s9.heap := hP
    have hD : va_D A9 (cat [mdW cyI A M]) := hD
    exact end_z hx hb hr hlocks hK hP hD hS (by simp [bI, c_10]) (Or.inr rfl) dX6_works_18
abbrev rm_X6_men : Room := { frames := 0, cells := 0, slots := 0, locals := 0 }
set_option maxHeartbeats 4000000 in
set_option maxRecDepth 100000 in
theorem c_X6_men (l : Launch) (G : va_G) (cyI cyO : ClassId) (A : Nat → Nat) (M : MS) (n : Nat) (hM : MI M.2.1 n) : CI l G (TY cyI cyO) yX6_men wsX6_men rm_X6_men [.ref (A 0)] [mdW cyI A M] (nI (cW (zW M.2.1))) [mdW cyI A M] := by
  refine wk_I (cc := cX6_men) (maxL := 3) (ret := (some .int)) (by decide) rfl (Nat.le_of_ble_eq_true rfl) ?_
  intro p9 e9 s9 m9 b9 t9 c9 A9 ls hx hb hr hts hown hlocks hml hK hA hD hP hl hS hnm
  have hl : lv_has ls 3 [(0, .ref (A 0))] := hl
  have hinX6 : ∀ w ∈ wsX60, w ∈ wsX6_men := by decide +kernel
  have hf7 := hts (.fieldLink RX6 7 "DoorstepRoundsModel" "z" "[I") (by decide +kernel)
  have hz : M.2.1 0 = nI n := hM.1
  have hn : n ≤ 20 := hM.2.1
  have hWk := hM.2.2.1
  have hOw := hM.2.2.2
  refine lv_iconst (v := (0 : Int32)) hx hb dX6_men_0 (by decide) ?_
  refine lv_istore_n (lv' := [(1, .int ((0 : Int32))), (0, .ref (A 0))]) hx hb dX6_men_1 rfl hl (by decide) rfl (fun ls hl => ?_)
  refine lv_iconst (v := (0 : Int32)) hx hb dX6_men_2 (by decide) ?_
  refine lv_istore_n (lv' := [(2, .int ((0 : Int32))), (1, .int ((0 : Int32))), (0, .ref (A 0))]) hx hb dX6_men_3 rfl hl (by decide) rfl (fun ls hl => ?_)
  refine W_loop (α := Nat × Nat) (I := fun a9 H locs ls => (a9.1 ≤ 6) ∧ (a9.2 = itr a9.1 (cwStep (zW M.2.1)) 0) ∧ va_P G vwCl (cat [mdW cyI A M]) H ∧ va_D A9 (cat [mdW cyI A M]) ∧ va_S A9 s9.heap H locs ∧ lv_has ls 3 [(2, .int (nI (a9.1))), (1, .int (nI (a9.2))), (0, .ref (A 0))]) (μ := fun a9 => 6 - a9.1) (st := fun a9 => []) ?_ (0, 0) _ _ _ ⟨(show 0 ≤ 6 from by omega), (show 0 = itr 0 (cwStep (zW M.2.1)) 0 from rfl), hP, hD, hS, lv_sub hl [0, 1, 2] rfl⟩
  intro a9 ih_4 H locs ls hI
  obtain ⟨i, x⟩ := a9
  obtain ⟨hi9, he9, hP9, hD9, hS9, hl9⟩ := hI
  have hi : i ≤ 6 := hi9
  have he : x = itr i (cwStep (zW M.2.1)) 0 := he9
  have hP : va_P G vwCl (cat [mdW cyI A M]) H := hP9
  have hD : va_D A9 (cat [mdW cyI A M]) := hD9
  have hS := hS9
  have hl : lv_has ls 3 [(2, .int (nI (i))), (1, .int (nI (x))), (0, .ref (A 0))] := hl9
  clear hi9 he9 hP9 hD9 hS9 hl9
  refine lv_iload_n hx hb dX6_men_4 rfl (lv_at hl 0 rfl) ?_
  refine lv_bipush (v := (6 : Int32)) hx hb dX6_men_5 (by decide) ?_
  refine lv_icmp_ge (tgt := 28) hx hb dX6_men_7 (by decide) (fun c_7 => ?_) (fun c_7 => ?_)
  · have c_7 : (6) ≤ (i) := (nI_leI (a := 6) (b := i) (by omega) (by omega)).mp c_7
    obtain rfl : 6 = i := by omega
    refine lv_iload_n hx hb dX6_men_28 rfl (lv_at hl 1 rfl) ?_
    have hP : va_P G vwCl (cat [mdW cyI A M]) H := hP
    have hD : va_D A9 (cat [mdW cyI A M]) := hD
    exact end_i hx hb hr hlocks hK hP hD hS (by rw [he]; rfl) dX6_men_29
  · have c_7 : ¬ (6) ≤ (i) := fun h9 => c_7 ((nI_leI (a := 6) (b := i) (by omega) (by omega)).mpr h9)
    refine lv_iload_n hx hb dX6_men_10 rfl (lv_at hl 1 rfl) ?_
    refine lv_aload_n hx hb dX6_men_11 rfl (lv_at hl 2 rfl) ?_
    refine va_get (v := .ref (A 1)) (C := RX6) (T := TX6) (N := 12) hx hb hts hinX6 hown hK hP 0 rfl rfl 1 (by decide) hf7 (fun _ h9 => h9) rfl dX6_men_12 ?_
    refine lv_bipush (v := (81 : Int32)) hx hb dX6_men_15 (by decide) ?_
    refine lv_iload_n hx hb dX6_men_17 rfl (lv_at hl 0 rfl) ?_
    refine lv_iadd hx hb dX6_men_18 ?_
    refine top_i (x' := nI (81 + i)) (nI_add (81) (i)) ?_
    refine r_ild (k := 81 + i) (n := 91) (f := M.2.1) hx hb hK hP 1 0 rfl rfl (by omega) (by omega) rfl dX6_men_19 ?_
    refine lv_iadd hx hb dX6_men_20 ?_
    refine top_i (x' := nI (cwStep (zW M.2.1) i x)) (men_step (hWk i (by omega))) ?_
    refine lv_istore_n (lv' := [(1, .int (nI (cwStep (zW M.2.1) i x))), (2, .int (nI (i))), (0, .ref (A 0))]) hx hb dX6_men_21 rfl hl (by decide) rfl (fun ls hl => ?_)
    refine lv_iinc (v := nI (i + 1)) (lv' := [(2, .int (nI (i + 1))), (1, .int (nI (cwStep (zW M.2.1) i x))), (0, .ref (A 0))]) hx hb dX6_men_22 hl (k := 1) rfl (nI_add _ _) (by decide) rfl (fun ls hl => ?_)
    refine lv_goto (tgt := 4) hx hb dX6_men_25 (by decide) ?_
    exact ih_4 (i + 1, cwStep (zW M.2.1) i x) (by show (6 - (i + 1)) < (6 - i); omega) _ _ _ ⟨(show (i + 1) ≤ 6 from by omega), (show (cwStep (zW M.2.1) i x) = itr (i + 1) (cwStep (zW M.2.1)) 0 from by show _ = cwStep _ i (itr i _ _); rw [← he]), hP, hD, hS, lv_sub hl [0, 1, 2] rfl⟩
abbrev rm_X6_sizeOf : Room := { frames := 0, cells := 0, slots := 0, locals := 0 }
set_option maxHeartbeats 4000000 in
set_option maxRecDepth 100000 in
theorem c_X6_sizeOf (l : Launch) (G : va_G) (cyI cyO : ClassId) (A : Nat → Nat) (M : MS) (n : Nat) (hM : MI M.2.1 n) (y : Int32) : CI l G (TY cyI cyO) yX6_sizeOf wsX6_sizeOf rm_X6_sizeOf [.ref (A 0), .int (y)] [mdW cyI A M] (nI (rSz (zO M.2.1) n y)) [mdW cyI A M] := by
  refine wk_I (cc := cX6_sizeOf) (maxL := 4) (ret := (some .int)) (by decide) rfl (Nat.le_of_ble_eq_true rfl) ?_
  intro p9 e9 s9 m9 b9 t9 c9 A9 ls hx hb hr hts hown hlocks hml hK hA hD hP hl hS hnm
  have hl : lv_has ls 4 [(0, .ref (A 0)), (1, .int (y))] := hl
  have hinX6 : ∀ w ∈ wsX60, w ∈ wsX6_sizeOf := by decide +kernel
  have hf7 := hts (.fieldLink RX6 7 "DoorstepRoundsModel" "z" "[I") (by decide +kernel)
  have hz : M.2.1 0 = nI n := hM.1
  have hn : n ≤ 20 := hM.2.1
  have hWk := hM.2.2.1
  have hOw := hM.2.2.2
  refine lv_iconst (v := (0 : Int32)) hx hb dX6_sizeOf_0 (by decide) ?_
  refine lv_istore_n (lv' := [(2, .int ((0 : Int32))), (0, .ref (A 0)), (1, .int (y))]) hx hb dX6_sizeOf_1 rfl hl (by decide) rfl (fun ls hl => ?_)
  refine lv_iconst (v := (0 : Int32)) hx hb dX6_sizeOf_2 (by decide) ?_
  refine lv_istore_n (lv' := [(3, .int ((0 : Int32))), (2, .int ((0 : Int32))), (0, .ref (A 0)), (1, .int (y))]) hx hb dX6_sizeOf_3 rfl hl (by decide) rfl (fun ls hl => ?_)
  refine W_loop (α := Nat × Nat) (I := fun a9 H locs ls => (a9.1 ≤ n) ∧ (a9.2 = itr a9.1 (szStep (zO M.2.1) y) 0) ∧ va_P G vwCl (cat [mdW cyI A M]) H ∧ va_D A9 (cat [mdW cyI A M]) ∧ va_S A9 s9.heap H locs ∧ lv_has ls 4 [(3, .int (nI (a9.1))), (2, .int (nI (a9.2))), (0, .ref (A 0)), (1, .int (y))]) (μ := fun a9 => n - a9.1) (st := fun a9 => []) ?_ (0, 0) _ _ _ ⟨(show 0 ≤ n from by omega), (show 0 = itr 0 (szStep (zO M.2.1) y) 0 from rfl), hP, hD, hS, lv_sub hl [0, 1, 2, 3] rfl⟩
  intro a9 ih_4 H locs ls hI
  obtain ⟨i, x⟩ := a9
  obtain ⟨hi9, he9, hP9, hD9, hS9, hl9⟩ := hI
  have hi : i ≤ n := hi9
  have he : x = itr i (szStep (zO M.2.1) y) 0 := he9
  have hP : va_P G vwCl (cat [mdW cyI A M]) H := hP9
  have hD : va_D A9 (cat [mdW cyI A M]) := hD9
  have hS := hS9
  have hl : lv_has ls 4 [(3, .int (nI (i))), (2, .int (nI (x))), (0, .ref (A 0)), (1, .int (y))] := hl9
  clear hi9 he9 hP9 hD9 hS9 hl9
  refine lv_iload_n hx hb dX6_sizeOf_4 rfl (lv_at hl 0 rfl) ?_
  refine lv_aload_n hx hb dX6_sizeOf_5 rfl (lv_at hl 2 rfl) ?_
  refine va_get (v := .ref (A 1)) (C := RX6) (T := TX6) (N := 12) hx hb hts hinX6 hown hK hP 0 rfl rfl 1 (by decide) hf7 (fun _ h9 => h9) rfl dX6_sizeOf_6 ?_
  refine lv_iconst (v := (0 : Int32)) hx hb dX6_sizeOf_9 (by decide) ?_
  refine r_ild (k := 0) (n := 91) (f := M.2.1) hx hb hK hP 1 0 rfl rfl (by omega) (by omega) rfl dX6_sizeOf_10 ?_
  refine top_i (x' := nI (n)) (hz) ?_
  refine lv_icmp_ge (tgt := 41) hx hb dX6_sizeOf_11 (by decide) (fun c_11 => ?_) (fun c_11 => ?_)
  · have c_11 : (n) ≤ (i) := (nI_leI (a := n) (b := i) (by omega) (by omega)).mp c_11
    obtain rfl : n = i := by omega
    refine lv_iload_n hx hb dX6_sizeOf_41 rfl (lv_at hl 1 rfl) ?_
    have hP : va_P G vwCl (cat [mdW cyI A M]) H := hP
    have hD : va_D A9 (cat [mdW cyI A M]) := hD
    exact end_i hx hb hr hlocks hK hP hD hS (by rw [he]; rfl) dX6_sizeOf_42
  · have c_11 : ¬ (n) ≤ (i) := fun h9 => c_11 ((nI_leI (a := n) (b := i) (by omega) (by omega)).mpr h9)
    refine lv_iload_n hx hb dX6_sizeOf_14 rfl (lv_at hl 1 rfl) ?_
    refine lv_aload_n hx hb dX6_sizeOf_15 rfl (lv_at hl 2 rfl) ?_
    refine va_get (v := .ref (A 1)) (C := RX6) (T := TX6) (N := 12) hx hb hts hinX6 hown hK hP 0 rfl rfl 1 (by decide) hf7 (fun _ h9 => h9) rfl dX6_sizeOf_16 ?_
    refine lv_bipush (v := (21 : Int32)) hx hb dX6_sizeOf_19 (by decide) ?_
    refine lv_iload_n hx hb dX6_sizeOf_21 rfl (lv_at hl 0 rfl) ?_
    refine lv_iadd hx hb dX6_sizeOf_22 ?_
    refine top_i (x' := nI (21 + i)) (nI_add (21) (i)) ?_
    refine r_ild (k := 21 + i) (n := 91) (f := M.2.1) hx hb hK hP 1 0 rfl rfl (by omega) (by omega) rfl dX6_sizeOf_23 ?_
    refine lv_iload_n hx hb dX6_sizeOf_24 rfl (lv_at hl 3 rfl) ?_
    refine lv_icmp_ne (tgt := 32) hx hb dX6_sizeOf_25 (by decide) (fun c_25 => ?_) (fun c_25 => ?_)
    · refine lv_iconst (v := (0 : Int32)) hx hb dX6_sizeOf_32 (by decide) ?_
      refine lv_iadd hx hb dX6_sizeOf_33 ?_
      refine top_i (x' := nI (x + 0)) (nI_add (x) (0)) ?_
      refine lv_istore_n (lv' := [(2, .int (nI (x + 0))), (3, .int (nI (i))), (0, .ref (A 0)), (1, .int (y))]) hx hb dX6_sizeOf_34 rfl hl (by decide) rfl (fun ls hl => ?_)
      refine lv_iinc (v := nI (i + 1)) (lv' := [(3, .int (nI (i + 1))), (2, .int (nI (x + 0))), (0, .ref (A 0)), (1, .int (y))]) hx hb dX6_sizeOf_35 hl (k := 1) rfl (nI_add _ _) (by decide) rfl (fun ls hl => ?_)
      refine lv_goto (tgt := 4) hx hb dX6_sizeOf_38 (by decide) ?_
      exact ih_4 (i + 1, x + 0) (by show (n - (i + 1)) < (n - i); omega) _ _ _ ⟨(show (i + 1) ≤ n from by omega), (show (x + 0) = itr (i + 1) (szStep (zO M.2.1) y) 0 from by show _ = szStep _ _ i (itr i _ _); rw [← he]; simp [szStep, zO, zP, zW, c_11, c_25]), hP, hD, hS, lv_sub hl [0, 1, 2, 3] rfl⟩
    · refine lv_iconst (v := (1 : Int32)) hx hb dX6_sizeOf_28 (by decide) ?_
      refine lv_goto (tgt := 33) hx hb dX6_sizeOf_29 (by decide) ?_
      refine lv_iadd hx hb dX6_sizeOf_33 ?_
      refine top_i (x' := nI (x + 1)) (nI_add (x) (1)) ?_
      refine lv_istore_n (lv' := [(2, .int (nI (x + 1))), (3, .int (nI (i))), (0, .ref (A 0)), (1, .int (y))]) hx hb dX6_sizeOf_34 rfl hl (by decide) rfl (fun ls hl => ?_)
      refine lv_iinc (v := nI (i + 1)) (lv' := [(3, .int (nI (i + 1))), (2, .int (nI (x + 1))), (0, .ref (A 0)), (1, .int (y))]) hx hb dX6_sizeOf_35 hl (k := 1) rfl (nI_add _ _) (by decide) rfl (fun ls hl => ?_)
      refine lv_goto (tgt := 4) hx hb dX6_sizeOf_38 (by decide) ?_
      exact ih_4 (i + 1, x + 1) (by show (n - (i + 1)) < (n - i); omega) _ _ _ ⟨(show (i + 1) ≤ n from by omega), (show (x + 1) = itr (i + 1) (szStep (zO M.2.1) y) 0 from by show _ = szStep _ _ i (itr i _ _); rw [← he]; simp [szStep, zO, zP, zW, c_11, c_25]), hP, hD, hS, lv_sub hl [0, 1, 2, 3] rfl⟩
abbrev rm_X6_loadOf : Room := { frames := 0, cells := 0, slots := 0, locals := 0 }
set_option maxHeartbeats 4000000 in
set_option maxRecDepth 100000 in
theorem c_X6_loadOf (l : Launch) (G : va_G) (cyI cyO : ClassId) (A : Nat → Nat) (M : MS) (n : Nat) (hM : MI M.2.1 n) (y : Int32) : CI l G (TY cyI cyO) yX6_loadOf wsX6_loadOf rm_X6_loadOf [.ref (A 0), .int (y)] [mdW cyI A M] (rLd (zP M.2.1) (zO M.2.1) n y) [mdW cyI A M] := by
  refine wk_I (cc := cX6_loadOf) (maxL := 4) (ret := (some .int)) (by decide) rfl (Nat.le_of_ble_eq_true rfl) ?_
  intro p9 e9 s9 m9 b9 t9 c9 A9 ls hx hb hr hts hown hlocks hml hK hA hD hP hl hS hnm
  have hl : lv_has ls 4 [(0, .ref (A 0)), (1, .int (y))] := hl
  have hinX6 : ∀ w ∈ wsX60, w ∈ wsX6_loadOf := by decide +kernel
  have hf7 := hts (.fieldLink RX6 7 "DoorstepRoundsModel" "z" "[I") (by decide +kernel)
  have hz : M.2.1 0 = nI n := hM.1
  have hn : n ≤ 20 := hM.2.1
  have hWk := hM.2.2.1
  have hOw := hM.2.2.2
  refine lv_iconst (v := (0 : Int32)) hx hb dX6_loadOf_0 (by decide) ?_
  refine lv_istore_n (lv' := [(2, .int ((0 : Int32))), (0, .ref (A 0)), (1, .int (y))]) hx hb dX6_loadOf_1 rfl hl (by decide) rfl (fun ls hl => ?_)
  refine lv_iconst (v := (0 : Int32)) hx hb dX6_loadOf_2 (by decide) ?_
  refine lv_istore_n (lv' := [(3, .int ((0 : Int32))), (2, .int ((0 : Int32))), (0, .ref (A 0)), (1, .int (y))]) hx hb dX6_loadOf_3 rfl hl (by decide) rfl (fun ls hl => ?_)
  refine W_loop (α := Nat × Int32) (I := fun a9 H locs ls => (a9.1 ≤ n) ∧ (a9.2 = itr a9.1 (ldStep (zP M.2.1) (zO M.2.1) y) 0) ∧ va_P G vwCl (cat [mdW cyI A M]) H ∧ va_D A9 (cat [mdW cyI A M]) ∧ va_S A9 s9.heap H locs ∧ lv_has ls 4 [(3, .int (nI (a9.1))), (2, .int (a9.2)), (0, .ref (A 0)), (1, .int (y))]) (μ := fun a9 => n - a9.1) (st := fun a9 => []) ?_ (0, 0) _ _ _ ⟨(show 0 ≤ n from by omega), (show 0 = itr 0 (ldStep (zP M.2.1) (zO M.2.1) y) 0 from rfl), hP, hD, hS, lv_sub hl [0, 1, 2, 3] rfl⟩
  intro a9 ih_4 H locs ls hI
  obtain ⟨i, x⟩ := a9
  obtain ⟨hi9, he9, hP9, hD9, hS9, hl9⟩ := hI
  have hi : i ≤ n := hi9
  have he : x = itr i (ldStep (zP M.2.1) (zO M.2.1) y) 0 := he9
  have hP : va_P G vwCl (cat [mdW cyI A M]) H := hP9
  have hD : va_D A9 (cat [mdW cyI A M]) := hD9
  have hS := hS9
  have hl : lv_has ls 4 [(3, .int (nI (i))), (2, .int (x)), (0, .ref (A 0)), (1, .int (y))] := hl9
  clear hi9 he9 hP9 hD9 hS9 hl9
  refine lv_iload_n hx hb dX6_loadOf_4 rfl (lv_at hl 0 rfl) ?_
  refine lv_aload_n hx hb dX6_loadOf_5 rfl (lv_at hl 2 rfl) ?_
  refine va_get (v := .ref (A 1)) (C := RX6) (T := TX6) (N := 12) hx hb hts hinX6 hown hK hP 0 rfl rfl 1 (by decide) hf7 (fun _ h9 => h9) rfl dX6_loadOf_6 ?_
  refine lv_iconst (v := (0 : Int32)) hx hb dX6_loadOf_9 (by decide) ?_
  refine r_ild (k := 0) (n := 91) (f := M.2.1) hx hb hK hP 1 0 rfl rfl (by omega) (by omega) rfl dX6_loadOf_10 ?_
  refine top_i (x' := nI (n)) (hz) ?_
  refine lv_icmp_ge (tgt := 48) hx hb dX6_loadOf_11 (by decide) (fun c_11 => ?_) (fun c_11 => ?_)
  · have c_11 : (n) ≤ (i) := (nI_leI (a := n) (b := i) (by omega) (by omega)).mp c_11
    obtain rfl : n = i := by omega
    refine lv_iload_n hx hb dX6_loadOf_48 rfl (lv_at hl 1 rfl) ?_
    have hP : va_P G vwCl (cat [mdW cyI A M]) H := hP
    have hD : va_D A9 (cat [mdW cyI A M]) := hD
    exact end_i hx hb hr hlocks hK hP hD hS (by rw [he]; rfl) dX6_loadOf_49
  · have c_11 : ¬ (n) ≤ (i) := fun h9 => c_11 ((nI_leI (a := n) (b := i) (by omega) (by omega)).mpr h9)
    refine lv_iload_n hx hb dX6_loadOf_14 rfl (lv_at hl 1 rfl) ?_
    refine lv_aload_n hx hb dX6_loadOf_15 rfl (lv_at hl 2 rfl) ?_
    refine va_get (v := .ref (A 1)) (C := RX6) (T := TX6) (N := 12) hx hb hts hinX6 hown hK hP 0 rfl rfl 1 (by decide) hf7 (fun _ h9 => h9) rfl dX6_loadOf_16 ?_
    refine lv_bipush (v := (21 : Int32)) hx hb dX6_loadOf_19 (by decide) ?_
    refine lv_iload_n hx hb dX6_loadOf_21 rfl (lv_at hl 0 rfl) ?_
    refine lv_iadd hx hb dX6_loadOf_22 ?_
    refine top_i (x' := nI (21 + i)) (nI_add (21) (i)) ?_
    refine r_ild (k := 21 + i) (n := 91) (f := M.2.1) hx hb hK hP 1 0 rfl rfl (by omega) (by omega) rfl dX6_loadOf_23 ?_
    refine lv_iload_n hx hb dX6_loadOf_24 rfl (lv_at hl 3 rfl) ?_
    refine lv_icmp_ne (tgt := 39) hx hb dX6_loadOf_25 (by decide) (fun c_25 => ?_) (fun c_25 => ?_)
    · refine lv_iconst (v := (0 : Int32)) hx hb dX6_loadOf_39 (by decide) ?_
      refine lv_iadd hx hb dX6_loadOf_40 ?_
      refine lv_istore_n (lv' := [(2, .int (x + ((0 : Int32)))), (3, .int (nI (i))), (0, .ref (A 0)), (1, .int (y))]) hx hb dX6_loadOf_41 rfl hl (by decide) rfl (fun ls hl => ?_)
      refine lv_iinc (v := nI (i + 1)) (lv' := [(3, .int (nI (i + 1))), (2, .int (x + ((0 : Int32)))), (0, .ref (A 0)), (1, .int (y))]) hx hb dX6_loadOf_42 hl (k := 1) rfl (nI_add _ _) (by decide) rfl (fun ls hl => ?_)
      refine lv_goto (tgt := 4) hx hb dX6_loadOf_45 (by decide) ?_
      exact ih_4 (i + 1, x + ((0 : Int32))) (by show (n - (i + 1)) < (n - i); omega) _ _ _ ⟨(show (i + 1) ≤ n from by omega), (show (x + ((0 : Int32))) = itr (i + 1) (ldStep (zP M.2.1) (zO M.2.1) y) 0 from by show _ = ldStep _ _ _ i (itr i _ _); rw [← he]; simp [ldStep, zO, zP, zW, c_11, c_25]), hP, hD, hS, lv_sub hl [0, 1, 2, 3] rfl⟩
    · refine lv_aload_n hx hb dX6_loadOf_28 rfl (lv_at hl 2 rfl) ?_
      refine va_get (v := .ref (A 1)) (C := RX6) (T := TX6) (N := 12) hx hb hts hinX6 hown hK hP 0 rfl rfl 1 (by decide) hf7 (fun _ h9 => h9) rfl dX6_loadOf_29 ?_
      refine lv_iconst (v := (1 : Int32)) hx hb dX6_loadOf_32 (by decide) ?_
      refine lv_iload_n hx hb dX6_loadOf_33 rfl (lv_at hl 0 rfl) ?_
      refine lv_iadd hx hb dX6_loadOf_34 ?_
      refine top_i (x' := nI (1 + i)) (nI_add (1) (i)) ?_
      refine r_ild (k := 1 + i) (n := 91) (f := M.2.1) hx hb hK hP 1 0 rfl rfl (by omega) (by omega) rfl dX6_loadOf_35 ?_
      refine lv_goto (tgt := 40) hx hb dX6_loadOf_36 (by decide) ?_
      refine lv_iadd hx hb dX6_loadOf_40 ?_
      refine lv_istore_n (lv' := [(2, .int (x + (M.2.1 (1 + i)))), (3, .int (nI (i))), (0, .ref (A 0)), (1, .int (y))]) hx hb dX6_loadOf_41 rfl hl (by decide) rfl (fun ls hl => ?_)
      refine lv_iinc (v := nI (i + 1)) (lv' := [(3, .int (nI (i + 1))), (2, .int (x + (M.2.1 (1 + i)))), (0, .ref (A 0)), (1, .int (y))]) hx hb dX6_loadOf_42 hl (k := 1) rfl (nI_add _ _) (by decide) rfl (fun ls hl => ?_)
      refine lv_goto (tgt := 4) hx hb dX6_loadOf_45 (by decide) ?_
      exact ih_4 (i + 1, x + (M.2.1 (1 + i))) (by show (n - (i + 1)) < (n - i); omega) _ _ _ ⟨(show (i + 1) ≤ n from by omega), (show (x + (M.2.1 (1 + i))) = itr (i + 1) (ldStep (zP M.2.1) (zO M.2.1) y) 0 from by show _ = ldStep _ _ _ i (itr i _ _); rw [← he]; simp [ldStep, zO, zP, zW, c_11, c_25]), hP, hD, hS, lv_sub hl [0, 1, 2, 3] rfl⟩
abbrev rm_X6_isAhead : Room := { frames := 1, cells := 0, slots := 0, locals := 23 }
set_option maxHeartbeats 4000000 in
set_option maxRecDepth 100000 in
theorem c_X6_isAhead (l : Launch) (G : va_G) (cyI cyO : ClassId) (A : Nat → Nat) (M : MS) (n : Nat) (hM : MI M.2.1 n) (k j : Nat) (hk : k < 6) (hj : j < 6) : CI l G (TY cyI cyO) yX6_isAhead wsX6_isAhead rm_X6_isAhead [.ref (A 0), .int (nI (k)), .int (nI (j))] [mdW cyI A M] (bI (mAhead M.2.1 n k j)) [mdW cyI A M] := by
  refine wk_I (cc := cX6_isAhead) (maxL := 3) (ret := (some .boolean)) (by decide) rfl (Nat.le_of_ble_eq_true rfl) ?_
  intro p9 e9 s9 m9 b9 t9 c9 A9 ls hx hb hr hts hown hlocks hml hK hA hD hP hl hS hnm
  have hl : lv_has ls 3 [(0, .ref (A 0)), (1, .int (nI (k))), (2, .int (nI (j)))] := hl
  have hz : M.2.1 0 = nI n := hM.1
  have hn : n ≤ 20 := hM.2.1
  have hWk := hM.2.2.1
  have hOw := hM.2.2.2
  have q1 := rSz_le (zO M.2.1) n (nI k)
  have q2 := rSz_le (zO M.2.1) n (nI j)
  refine lv_aload_n hx hb dX6_isAhead_0 rfl (lv_at hl 0 rfl) ?_
  refine lv_iload_n hx hb dX6_isAhead_1 rfl (lv_at hl 1 rfl) ?_
  refine gVi (gs := [mdW cyI A M]) (As := [.int (nI (k))]) (rest := []) ⟨hx, hb, hml, hown, hts⟩ (c_X6_sizeOf l G cyI cyO A M n hM (nI (k))) (cwV 1 hts gX6_isAhead_X6_sizeOf rfl rfl rfl (by decide +kernel) ⟨Nat.le_of_ble_eq_true rfl, Nat.le_of_ble_eq_true rfl⟩) hK hP hD hS hA [0] rfl rfl rfl 0 6 rfl rfl rfl hl.1 rfl (Nat.le_of_ble_eq_true rfl) dX6_isAhead_2 ⟨Nat.le_refl _, Nat.le_refl _⟩ (fun H locs hP hD hS => ?_)
  have hP : va_P G vwCl (cat [mdW cyI A M]) H := hP
  have hD : va_D A9 (cat [mdW cyI A M]) := hD
  refine lv_aload_n hx hb dX6_isAhead_5 rfl (lv_at hl 0 rfl) ?_
  refine lv_iload_n hx hb dX6_isAhead_6 rfl (lv_at hl 2 rfl) ?_
  refine gVi (gs := [mdW cyI A M]) (As := [.int (nI (j))]) (rest := [.int (nI (rSz (zO M.2.1) n (nI (k))))]) ⟨hx, hb, hml, hown, hts⟩ (c_X6_sizeOf l G cyI cyO A M n hM (nI (j))) (cwV 1 hts gX6_isAhead_X6_sizeOf rfl rfl rfl (by decide +kernel) ⟨Nat.le_of_ble_eq_true rfl, Nat.le_of_ble_eq_true rfl⟩) hK hP hD hS hA [0] rfl rfl rfl 0 6 rfl rfl rfl hl.1 rfl (Nat.le_of_ble_eq_true rfl) dX6_isAhead_7 ⟨Nat.le_refl _, Nat.le_refl _⟩ (fun H locs hP hD hS => ?_)
  have hP : va_P G vwCl (cat [mdW cyI A M]) H := hP
  have hD : va_D A9 (cat [mdW cyI A M]) := hD
  refine lv_icmp_gt (tgt := 31) hx hb dX6_isAhead_10 (by decide) (fun c_10 => ?_) (fun c_10 => ?_)
  · have c_10 : (rSz (zO M.2.1) n (nI (j))) < (rSz (zO M.2.1) n (nI (k))) := (nI_ltI (a := rSz (zO M.2.1) n (nI (j))) (b := rSz (zO M.2.1) n (nI (k))) (by omega) (by omega)).mp c_10
    refine lv_iconst (v := (1 : Int32)) hx hb dX6_isAhead_31 (by decide) ?_
    refine lv_goto (tgt := 36) hx hb dX6_isAhead_32 (by decide) ?_
    have hP : va_P G vwCl (cat [mdW cyI A M]) H := hP
    have hD : va_D A9 (cat [mdW cyI A M]) := hD
    exact end_z hx hb hr hlocks hK hP hD hS (by simp [mAhead, bI, c_10] <;> omega) (Or.inr rfl) dX6_isAhead_36
  · have c_10 : ¬ (rSz (zO M.2.1) n (nI (j))) < (rSz (zO M.2.1) n (nI (k))) := fun h9 => c_10 ((nI_ltI (a := rSz (zO M.2.1) n (nI (j))) (b := rSz (zO M.2.1) n (nI (k))) (by omega) (by omega)).mpr h9)
    refine lv_aload_n hx hb dX6_isAhead_13 rfl (lv_at hl 0 rfl) ?_
    refine lv_iload_n hx hb dX6_isAhead_14 rfl (lv_at hl 1 rfl) ?_
    refine gVi (gs := [mdW cyI A M]) (As := [.int (nI (k))]) (rest := []) ⟨hx, hb, hml, hown, hts⟩ (c_X6_sizeOf l G cyI cyO A M n hM (nI (k))) (cwV 1 hts gX6_isAhead_X6_sizeOf rfl rfl rfl (by decide +kernel) ⟨Nat.le_of_ble_eq_true rfl, Nat.le_of_ble_eq_true rfl⟩) hK hP hD hS hA [0] rfl rfl rfl 0 6 rfl rfl rfl hl.1 rfl (Nat.le_of_ble_eq_true rfl) dX6_isAhead_15 ⟨Nat.le_refl _, Nat.le_refl _⟩ (fun H locs hP hD hS => ?_)
    have hP : va_P G vwCl (cat [mdW cyI A M]) H := hP
    have hD : va_D A9 (cat [mdW cyI A M]) := hD
    refine lv_aload_n hx hb dX6_isAhead_18 rfl (lv_at hl 0 rfl) ?_
    refine lv_iload_n hx hb dX6_isAhead_19 rfl (lv_at hl 2 rfl) ?_
    refine gVi (gs := [mdW cyI A M]) (As := [.int (nI (j))]) (rest := [.int (nI (rSz (zO M.2.1) n (nI (k))))]) ⟨hx, hb, hml, hown, hts⟩ (c_X6_sizeOf l G cyI cyO A M n hM (nI (j))) (cwV 1 hts gX6_isAhead_X6_sizeOf rfl rfl rfl (by decide +kernel) ⟨Nat.le_of_ble_eq_true rfl, Nat.le_of_ble_eq_true rfl⟩) hK hP hD hS hA [0] rfl rfl rfl 0 6 rfl rfl rfl hl.1 rfl (Nat.le_of_ble_eq_true rfl) dX6_isAhead_20 ⟨Nat.le_refl _, Nat.le_refl _⟩ (fun H locs hP hD hS => ?_)
    have hP : va_P G vwCl (cat [mdW cyI A M]) H := hP
    have hD : va_D A9 (cat [mdW cyI A M]) := hD
    refine lv_icmp_ne (tgt := 35) hx hb dX6_isAhead_23 (by decide) (fun c_23 => ?_) (fun c_23 => ?_)
    · have c_23 : ¬ (rSz (zO M.2.1) n (nI (k))) = (rSz (zO M.2.1) n (nI (j))) := fun h9 => c_23 ((nI_eq (a := rSz (zO M.2.1) n (nI (k))) (b := rSz (zO M.2.1) n (nI (j))) (by omega) (by omega)).mpr h9)
      refine lv_iconst (v := (0 : Int32)) hx hb dX6_isAhead_35 (by decide) ?_
      have hP : va_P G vwCl (cat [mdW cyI A M]) H := hP
      have hD : va_D A9 (cat [mdW cyI A M]) := hD
      exact end_z hx hb hr hlocks hK hP hD hS (by simp [mAhead, bI, c_10, c_23] <;> omega) (Or.inl rfl) dX6_isAhead_36
    · have c_23 : (rSz (zO M.2.1) n (nI (k))) = (rSz (zO M.2.1) n (nI (j))) := (nI_eq (a := rSz (zO M.2.1) n (nI (k))) (b := rSz (zO M.2.1) n (nI (j))) (by omega) (by omega)).mp c_23
      refine lv_iload_n hx hb dX6_isAhead_26 rfl (lv_at hl 1 rfl) ?_
      refine lv_iload_n hx hb dX6_isAhead_27 rfl (lv_at hl 2 rfl) ?_
      refine lv_icmp_ge (tgt := 35) hx hb dX6_isAhead_28 (by decide) (fun c_28 => ?_) (fun c_28 => ?_)
      · have c_28 : (j) ≤ (k) := (nI_leI (a := j) (b := k) (by omega) (by omega)).mp c_28
        refine lv_iconst (v := (0 : Int32)) hx hb dX6_isAhead_35 (by decide) ?_
        have hP : va_P G vwCl (cat [mdW cyI A M]) H := hP
        have hD : va_D A9 (cat [mdW cyI A M]) := hD
        exact end_z hx hb hr hlocks hK hP hD hS (by simp [mAhead, bI, c_10, c_23, c_28] <;> omega) (Or.inl rfl) dX6_isAhead_36
      · have c_28 : ¬ (j) ≤ (k) := fun h9 => c_28 ((nI_leI (a := j) (b := k) (by omega) (by omega)).mpr h9)
        refine lv_iconst (v := (1 : Int32)) hx hb dX6_isAhead_31 (by decide) ?_
        refine lv_goto (tgt := 36) hx hb dX6_isAhead_32 (by decide) ?_
        have hP : va_P G vwCl (cat [mdW cyI A M]) H := hP
        have hD : va_D A9 (cat [mdW cyI A M]) := hD
        exact end_z hx hb hr hlocks hK hP hD hS (by simp [mAhead, bI, c_10, c_23, c_28] <;> omega) (Or.inr rfl) dX6_isAhead_36
abbrev rm_X6_isDearer : Room := { frames := 0, cells := 0, slots := 0, locals := 0 }
set_option maxHeartbeats 4000000 in
set_option maxRecDepth 100000 in
theorem c_X6_isDearer (l : Launch) (G : va_G) (cyI cyO : ClassId) (A : Nat → Nat) (M : MS) (n : Nat) (hM : MI M.2.1 n) (k j : Nat) (hk : k < 20) (hj : j < 20) : CI l G (TY cyI cyO) yX6_isDearer wsX6_isDearer rm_X6_isDearer [.ref (A 0), .int (nI (k)), .int (nI (j))] [mdW cyI A M] (bI (mDear M.2.1 k j)) [mdW cyI A M] := by
  refine wk_I (cc := cX6_isDearer) (maxL := 3) (ret := (some .boolean)) (by decide) rfl (Nat.le_of_ble_eq_true rfl) ?_
  intro p9 e9 s9 m9 b9 t9 c9 A9 ls hx hb hr hts hown hlocks hml hK hA hD hP hl hS hnm
  have hl : lv_has ls 3 [(0, .ref (A 0)), (1, .int (nI (k))), (2, .int (nI (j)))] := hl
  have hinX6 : ∀ w ∈ wsX60, w ∈ wsX6_isDearer := by decide +kernel
  have hf7 := hts (.fieldLink RX6 7 "DoorstepRoundsModel" "z" "[I") (by decide +kernel)
  have hz : M.2.1 0 = nI n := hM.1
  have hn : n ≤ 20 := hM.2.1
  have hWk := hM.2.2.1
  have hOw := hM.2.2.2
  refine lv_aload_n hx hb dX6_isDearer_0 rfl (lv_at hl 0 rfl) ?_
  refine va_get (v := .ref (A 1)) (C := RX6) (T := TX6) (N := 12) hx hb hts hinX6 hown hK hP 0 rfl rfl 1 (by decide) hf7 (fun _ h9 => h9) rfl dX6_isDearer_1 ?_
  refine lv_iconst (v := (1 : Int32)) hx hb dX6_isDearer_4 (by decide) ?_
  refine lv_iload_n hx hb dX6_isDearer_5 rfl (lv_at hl 1 rfl) ?_
  refine lv_iadd hx hb dX6_isDearer_6 ?_
  refine top_i (x' := nI (1 + k)) (nI_add (1) (k)) ?_
  refine r_ild (k := 1 + k) (n := 91) (f := M.2.1) hx hb hK hP 1 0 rfl rfl (by omega) (by omega) rfl dX6_isDearer_7 ?_
  refine lv_aload_n hx hb dX6_isDearer_8 rfl (lv_at hl 0 rfl) ?_
  refine va_get (v := .ref (A 1)) (C := RX6) (T := TX6) (N := 12) hx hb hts hinX6 hown hK hP 0 rfl rfl 1 (by decide) hf7 (fun _ h9 => h9) rfl dX6_isDearer_9 ?_
  refine lv_iconst (v := (1 : Int32)) hx hb dX6_isDearer_12 (by decide) ?_
  refine lv_iload_n hx hb dX6_isDearer_13 rfl (lv_at hl 2 rfl) ?_
  refine lv_iadd hx hb dX6_isDearer_14 ?_
  refine top_i (x' := nI (1 + j)) (nI_add (1) (j)) ?_
  refine r_ild (k := 1 + j) (n := 91) (f := M.2.1) hx hb hK hP 1 0 rfl rfl (by omega) (by omega) rfl dX6_isDearer_15 ?_
  refine lv_icmp_gt (tgt := 43) hx hb dX6_isDearer_16 (by decide) (fun c_16 => ?_) (fun c_16 => ?_)
  · refine lv_iconst (v := (1 : Int32)) hx hb dX6_isDearer_43 (by decide) ?_
    refine lv_goto (tgt := 48) hx hb dX6_isDearer_44 (by decide) ?_
    have hP : va_P G vwCl (cat [mdW cyI A M]) s9.heap := hP
    have hD : va_D A9 (cat [mdW cyI A M]) := hD
    exact end_z hx hb hr hlocks hK hP hD hS (by simp [mDear, bI, c_16] <;> omega) (Or.inr rfl) dX6_isDearer_48
  · refine lv_aload_n hx hb dX6_isDearer_19 rfl (lv_at hl 0 rfl) ?_
    refine va_get (v := .ref (A 1)) (C := RX6) (T := TX6) (N := 12) hx hb hts hinX6 hown hK hP 0 rfl rfl 1 (by decide) hf7 (fun _ h9 => h9) rfl dX6_isDearer_20 ?_
    refine lv_iconst (v := (1 : Int32)) hx hb dX6_isDearer_23 (by decide) ?_
    refine lv_iload_n hx hb dX6_isDearer_24 rfl (lv_at hl 1 rfl) ?_
    refine lv_iadd hx hb dX6_isDearer_25 ?_
    refine top_i (x' := nI (1 + k)) (nI_add (1) (k)) ?_
    refine r_ild (k := 1 + k) (n := 91) (f := M.2.1) hx hb hK hP 1 0 rfl rfl (by omega) (by omega) rfl dX6_isDearer_26 ?_
    refine lv_aload_n hx hb dX6_isDearer_27 rfl (lv_at hl 0 rfl) ?_
    refine va_get (v := .ref (A 1)) (C := RX6) (T := TX6) (N := 12) hx hb hts hinX6 hown hK hP 0 rfl rfl 1 (by decide) hf7 (fun _ h9 => h9) rfl dX6_isDearer_28 ?_
    refine lv_iconst (v := (1 : Int32)) hx hb dX6_isDearer_31 (by decide) ?_
    refine lv_iload_n hx hb dX6_isDearer_32 rfl (lv_at hl 2 rfl) ?_
    refine lv_iadd hx hb dX6_isDearer_33 ?_
    refine top_i (x' := nI (1 + j)) (nI_add (1) (j)) ?_
    refine r_ild (k := 1 + j) (n := 91) (f := M.2.1) hx hb hK hP 1 0 rfl rfl (by omega) (by omega) rfl dX6_isDearer_34 ?_
    refine lv_icmp_ne (tgt := 47) hx hb dX6_isDearer_35 (by decide) (fun c_35 => ?_) (fun c_35 => ?_)
    · refine lv_iconst (v := (0 : Int32)) hx hb dX6_isDearer_47 (by decide) ?_
      have hP : va_P G vwCl (cat [mdW cyI A M]) s9.heap := hP
      have hD : va_D A9 (cat [mdW cyI A M]) := hD
      exact end_z hx hb hr hlocks hK hP hD hS (by simp [mDear, bI, c_16, c_35] <;> omega) (Or.inl rfl) dX6_isDearer_48
    · refine lv_iload_n hx hb dX6_isDearer_38 rfl (lv_at hl 1 rfl) ?_
      refine lv_iload_n hx hb dX6_isDearer_39 rfl (lv_at hl 2 rfl) ?_
      refine lv_icmp_ge (tgt := 47) hx hb dX6_isDearer_40 (by decide) (fun c_40 => ?_) (fun c_40 => ?_)
      · have c_40 : (j) ≤ (k) := (nI_leI (a := j) (b := k) (by omega) (by omega)).mp c_40
        refine lv_iconst (v := (0 : Int32)) hx hb dX6_isDearer_47 (by decide) ?_
        have hP : va_P G vwCl (cat [mdW cyI A M]) s9.heap := hP
        have hD : va_D A9 (cat [mdW cyI A M]) := hD
        exact end_z hx hb hr hlocks hK hP hD hS (by simp [mDear, bI, c_16, c_35, c_40] <;> omega) (Or.inl rfl) dX6_isDearer_48
      · have c_40 : ¬ (j) ≤ (k) := fun h9 => c_40 ((nI_leI (a := j) (b := k) (by omega) (by omega)).mpr h9)
        refine lv_iconst (v := (1 : Int32)) hx hb dX6_isDearer_43 (by decide) ?_
        refine lv_goto (tgt := 48) hx hb dX6_isDearer_44 (by decide) ?_
        have hP : va_P G vwCl (cat [mdW cyI A M]) s9.heap := hP
        have hD : va_D A9 (cat [mdW cyI A M]) := hD
        exact end_z hx hb hr hlocks hK hP hD hS (by simp [mDear, bI, c_16, c_35, c_40] <;> omega) (Or.inr rfl) dX6_isDearer_48
abbrev rm_X6_give : Room := { frames := 0, cells := 0, slots := 0, locals := 0 }
set_option maxHeartbeats 4000000 in
set_option maxRecDepth 100000 in
theorem c_X6_give (l : Launch) (G : va_G) (cyI cyO : ClassId) (A : Nat → Nat) (M : MS) (n : Nat) (hM : MI M.2.1 n) (k j : Nat) (hk : k < 20) (hj : j < 6) : CV l G (TY cyI cyO) yX6_give wsX6_give rm_X6_give [.ref (A 0), .int (nI (k)), .int (nI (j))] [mdW cyI A M] [mdW cyI A ((M.1, M.2.1, M.2.2.1, M.2.2.2.1, M.2.2.2.2.1, M.2.2.2.2.2.1, upd M.2.2.2.2.2.2.1 k (nI j), M.2.2.2.2.2.2.2.1, upd M.2.2.2.2.2.2.2.2.1 j (M.2.2.2.2.2.2.2.2.1 j + 1), upd M.2.2.2.2.2.2.2.2.2.1 j (M.2.2.2.2.2.2.2.2.2.1 j + M.2.1 (1 + k)), M.2.2.2.2.2.2.2.2.2.2.1, M.2.2.2.2.2.2.2.2.2.2.2))] := by
  refine wk_V (cc := cX6_give) (maxL := 3) (ret := none) (by decide) rfl (Nat.le_of_ble_eq_true rfl) ?_
  intro p9 e9 s9 m9 b9 t9 c9 A9 ls hx hb hr hts hown hlocks hml hK hA hD hP hl hS hnm
  have hl : lv_has ls 3 [(0, .ref (A 0)), (1, .int (nI (k))), (2, .int (nI (j)))] := hl
  have hinX6 : ∀ w ∈ wsX60, w ∈ wsX6_give := by decide +kernel
  have hf19 := hts (.fieldLink RX6 19 "DoorstepRoundsModel" "goal" "[I") (by decide +kernel)
  have hf25 := hts (.fieldLink RX6 25 "DoorstepRoundsModel" "given" "[I") (by decide +kernel)
  have hf28 := hts (.fieldLink RX6 28 "DoorstepRoundsModel" "pintsBy" "[I") (by decide +kernel)
  have hf7 := hts (.fieldLink RX6 7 "DoorstepRoundsModel" "z" "[I") (by decide +kernel)
  have hz : M.2.1 0 = nI n := hM.1
  have hn : n ≤ 20 := hM.2.1
  have hWk := hM.2.2.1
  have hOw := hM.2.2.2
  have hP : va_P G vwCl (cat [[(A 0, .inr (6, [.int (M.1), .ref (A 1), .ref (A 2), .int (nI (M.2.2.2.1)), .ref (A 3), .int (nI (M.2.2.2.2.2.1)), .ref (A 4), .ref (A 5), .ref (A 6), .ref (A 7), .int (M.2.2.2.2.2.2.2.2.2.2.1), .int (M.2.2.2.2.2.2.2.2.2.2.2)]))], [(A 1, .inl (cyI, 91, .inl (M.2.1)))], [(A 2, .inl (cyI, 546, .inl (M.2.2.1)))], [(A 3, .inl (cyI, 60, .inl (M.2.2.2.2.1)))], [(A 4, .inl (cyI, 20, .inl (M.2.2.2.2.2.2.1)))], [(A 5, .inl (cyI, 6, .inl (M.2.2.2.2.2.2.2.1)))], [(A 6, .inl (cyI, 6, .inl (M.2.2.2.2.2.2.2.2.1)))], [(A 7, .inl (cyI, 6, .inl (M.2.2.2.2.2.2.2.2.2.1)))]]) s9.heap := hP
  have hD : va_D A9 (cat [[(A 0, .inr (6, [.int (M.1), .ref (A 1), .ref (A 2), .int (nI (M.2.2.2.1)), .ref (A 3), .int (nI (M.2.2.2.2.2.1)), .ref (A 4), .ref (A 5), .ref (A 6), .ref (A 7), .int (M.2.2.2.2.2.2.2.2.2.2.1), .int (M.2.2.2.2.2.2.2.2.2.2.2)]))], [(A 1, .inl (cyI, 91, .inl (M.2.1)))], [(A 2, .inl (cyI, 546, .inl (M.2.2.1)))], [(A 3, .inl (cyI, 60, .inl (M.2.2.2.2.1)))], [(A 4, .inl (cyI, 20, .inl (M.2.2.2.2.2.2.1)))], [(A 5, .inl (cyI, 6, .inl (M.2.2.2.2.2.2.2.1)))], [(A 6, .inl (cyI, 6, .inl (M.2.2.2.2.2.2.2.2.1)))], [(A 7, .inl (cyI, 6, .inl (M.2.2.2.2.2.2.2.2.2.1)))]]) := hD
  refine lv_aload_n hx hb dX6_give_0 rfl (lv_at hl 0 rfl) ?_
  refine va_get (v := .ref (A 4)) (C := RX6) (T := TX6) (N := 12) hx hb hts hinX6 hown hK hP 0 rfl rfl 6 (by decide) hf19 (fun _ h9 => h9) rfl dX6_give_1 ?_
  refine lv_iload_n hx hb dX6_give_4 rfl (lv_at hl 1 rfl) ?_
  refine lv_iload_n hx hb dX6_give_5 rfl (lv_at hl 2 rfl) ?_
  refine r_ist (k := k) (n := 20) (f := M.2.2.2.2.2.2.1) hx hb hK hP hD hS 4 0 rfl rfl (by omega) (by omega) rfl dX6_give_6 (fun H locs hP hD hS => ?_)
  have hP : va_P G vwCl (cat [[(A 0, .inr (6, [.int (M.1), .ref (A 1), .ref (A 2), .int (nI (M.2.2.2.1)), .ref (A 3), .int (nI (M.2.2.2.2.2.1)), .ref (A 4), .ref (A 5), .ref (A 6), .ref (A 7), .int (M.2.2.2.2.2.2.2.2.2.2.1), .int (M.2.2.2.2.2.2.2.2.2.2.2)]))], [(A 1, .inl (cyI, 91, .inl (M.2.1)))], [(A 2, .inl (cyI, 546, .inl (M.2.2.1)))], [(A 3, .inl (cyI, 60, .inl (M.2.2.2.2.1)))], [(A 4, .inl (cyI, 20, .inl (upd M.2.2.2.2.2.2.1 k (nI (j)))))], [(A 5, .inl (cyI, 6, .inl (M.2.2.2.2.2.2.2.1)))], [(A 6, .inl (cyI, 6, .inl (M.2.2.2.2.2.2.2.2.1)))], [(A 7, .inl (cyI, 6, .inl (M.2.2.2.2.2.2.2.2.2.1)))]]) H := hP
  have hD : va_D A9 (cat [[(A 0, .inr (6, [.int (M.1), .ref (A 1), .ref (A 2), .int (nI (M.2.2.2.1)), .ref (A 3), .int (nI (M.2.2.2.2.2.1)), .ref (A 4), .ref (A 5), .ref (A 6), .ref (A 7), .int (M.2.2.2.2.2.2.2.2.2.2.1), .int (M.2.2.2.2.2.2.2.2.2.2.2)]))], [(A 1, .inl (cyI, 91, .inl (M.2.1)))], [(A 2, .inl (cyI, 546, .inl (M.2.2.1)))], [(A 3, .inl (cyI, 60, .inl (M.2.2.2.2.1)))], [(A 4, .inl (cyI, 20, .inl (upd M.2.2.2.2.2.2.1 k (nI (j)))))], [(A 5, .inl (cyI, 6, .inl (M.2.2.2.2.2.2.2.1)))], [(A 6, .inl (cyI, 6, .inl (M.2.2.2.2.2.2.2.2.1)))], [(A 7, .inl (cyI, 6, .inl (M.2.2.2.2.2.2.2.2.2.1)))]]) := hD
  refine lv_aload_n hx hb dX6_give_7 rfl (lv_at hl 0 rfl) ?_
  refine va_get (v := .ref (A 6)) (C := RX6) (T := TX6) (N := 12) hx hb hts hinX6 hown hK hP 0 rfl rfl 8 (by decide) hf25 (fun _ h9 => h9) rfl dX6_give_8 ?_
  refine lv_iload_n hx hb dX6_give_11 rfl (lv_at hl 2 rfl) ?_
  refine lv_dup2_11 hx hb dX6_give_12 rfl rfl ?_
  refine r_ild (k := j) (n := 6) (f := M.2.2.2.2.2.2.2.2.1) hx hb hK hP 6 0 rfl rfl (by omega) (by omega) rfl dX6_give_13 ?_
  refine lv_iconst (v := (1 : Int32)) hx hb dX6_give_14 (by decide) ?_
  refine lv_iadd hx hb dX6_give_15 ?_
  refine r_ist (k := j) (n := 6) (f := M.2.2.2.2.2.2.2.2.1) hx hb hK hP hD hS 6 0 rfl rfl (by omega) (by omega) rfl dX6_give_16 (fun H locs hP hD hS => ?_)
  have hP : va_P G vwCl (cat [[(A 0, .inr (6, [.int (M.1), .ref (A 1), .ref (A 2), .int (nI (M.2.2.2.1)), .ref (A 3), .int (nI (M.2.2.2.2.2.1)), .ref (A 4), .ref (A 5), .ref (A 6), .ref (A 7), .int (M.2.2.2.2.2.2.2.2.2.2.1), .int (M.2.2.2.2.2.2.2.2.2.2.2)]))], [(A 1, .inl (cyI, 91, .inl (M.2.1)))], [(A 2, .inl (cyI, 546, .inl (M.2.2.1)))], [(A 3, .inl (cyI, 60, .inl (M.2.2.2.2.1)))], [(A 4, .inl (cyI, 20, .inl (upd M.2.2.2.2.2.2.1 k (nI (j)))))], [(A 5, .inl (cyI, 6, .inl (M.2.2.2.2.2.2.2.1)))], [(A 6, .inl (cyI, 6, .inl (upd M.2.2.2.2.2.2.2.2.1 j ((M.2.2.2.2.2.2.2.2.1 j) + ((1 : Int32))))))], [(A 7, .inl (cyI, 6, .inl (M.2.2.2.2.2.2.2.2.2.1)))]]) H := hP
  have hD : va_D A9 (cat [[(A 0, .inr (6, [.int (M.1), .ref (A 1), .ref (A 2), .int (nI (M.2.2.2.1)), .ref (A 3), .int (nI (M.2.2.2.2.2.1)), .ref (A 4), .ref (A 5), .ref (A 6), .ref (A 7), .int (M.2.2.2.2.2.2.2.2.2.2.1), .int (M.2.2.2.2.2.2.2.2.2.2.2)]))], [(A 1, .inl (cyI, 91, .inl (M.2.1)))], [(A 2, .inl (cyI, 546, .inl (M.2.2.1)))], [(A 3, .inl (cyI, 60, .inl (M.2.2.2.2.1)))], [(A 4, .inl (cyI, 20, .inl (upd M.2.2.2.2.2.2.1 k (nI (j)))))], [(A 5, .inl (cyI, 6, .inl (M.2.2.2.2.2.2.2.1)))], [(A 6, .inl (cyI, 6, .inl (upd M.2.2.2.2.2.2.2.2.1 j ((M.2.2.2.2.2.2.2.2.1 j) + ((1 : Int32))))))], [(A 7, .inl (cyI, 6, .inl (M.2.2.2.2.2.2.2.2.2.1)))]]) := hD
  refine lv_aload_n hx hb dX6_give_17 rfl (lv_at hl 0 rfl) ?_
  refine va_get (v := .ref (A 7)) (C := RX6) (T := TX6) (N := 12) hx hb hts hinX6 hown hK hP 0 rfl rfl 9 (by decide) hf28 (fun _ h9 => h9) rfl dX6_give_18 ?_
  refine lv_iload_n hx hb dX6_give_21 rfl (lv_at hl 2 rfl) ?_
  refine lv_dup2_11 hx hb dX6_give_22 rfl rfl ?_
  refine r_ild (k := j) (n := 6) (f := M.2.2.2.2.2.2.2.2.2.1) hx hb hK hP 7 0 rfl rfl (by omega) (by omega) rfl dX6_give_23 ?_
  refine lv_aload_n hx hb dX6_give_24 rfl (lv_at hl 0 rfl) ?_
  refine va_get (v := .ref (A 1)) (C := RX6) (T := TX6) (N := 12) hx hb hts hinX6 hown hK hP 0 rfl rfl 1 (by decide) hf7 (fun _ h9 => h9) rfl dX6_give_25 ?_
  refine lv_iconst (v := (1 : Int32)) hx hb dX6_give_28 (by decide) ?_
  refine lv_iload_n hx hb dX6_give_29 rfl (lv_at hl 1 rfl) ?_
  refine lv_iadd hx hb dX6_give_30 ?_
  refine top_i (x' := nI (1 + k)) (nI_add (1) (k)) ?_
  refine r_ild (k := 1 + k) (n := 91) (f := M.2.1) hx hb hK hP 1 0 rfl rfl (by omega) (by omega) rfl dX6_give_31 ?_
  refine lv_iadd hx hb dX6_give_32 ?_
  refine r_ist (k := j) (n := 6) (f := M.2.2.2.2.2.2.2.2.2.1) hx hb hK hP hD hS 7 0 rfl rfl (by omega) (by omega) rfl dX6_give_33 (fun H locs hP hD hS => ?_)
  have hP : va_P G vwCl (cat [[(A 0, .inr (6, [.int (M.1), .ref (A 1), .ref (A 2), .int (nI (M.2.2.2.1)), .ref (A 3), .int (nI (M.2.2.2.2.2.1)), .ref (A 4), .ref (A 5), .ref (A 6), .ref (A 7), .int (M.2.2.2.2.2.2.2.2.2.2.1), .int (M.2.2.2.2.2.2.2.2.2.2.2)]))], [(A 1, .inl (cyI, 91, .inl (M.2.1)))], [(A 2, .inl (cyI, 546, .inl (M.2.2.1)))], [(A 3, .inl (cyI, 60, .inl (M.2.2.2.2.1)))], [(A 4, .inl (cyI, 20, .inl (upd M.2.2.2.2.2.2.1 k (nI (j)))))], [(A 5, .inl (cyI, 6, .inl (M.2.2.2.2.2.2.2.1)))], [(A 6, .inl (cyI, 6, .inl (upd M.2.2.2.2.2.2.2.2.1 j ((M.2.2.2.2.2.2.2.2.1 j) + ((1 : Int32))))))], [(A 7, .inl (cyI, 6, .inl (upd M.2.2.2.2.2.2.2.2.2.1 j ((M.2.2.2.2.2.2.2.2.2.1 j) + (M.2.1 (1 + k))))))]]) H := hP
  have hD : va_D A9 (cat [[(A 0, .inr (6, [.int (M.1), .ref (A 1), .ref (A 2), .int (nI (M.2.2.2.1)), .ref (A 3), .int (nI (M.2.2.2.2.2.1)), .ref (A 4), .ref (A 5), .ref (A 6), .ref (A 7), .int (M.2.2.2.2.2.2.2.2.2.2.1), .int (M.2.2.2.2.2.2.2.2.2.2.2)]))], [(A 1, .inl (cyI, 91, .inl (M.2.1)))], [(A 2, .inl (cyI, 546, .inl (M.2.2.1)))], [(A 3, .inl (cyI, 60, .inl (M.2.2.2.2.1)))], [(A 4, .inl (cyI, 20, .inl (upd M.2.2.2.2.2.2.1 k (nI (j)))))], [(A 5, .inl (cyI, 6, .inl (M.2.2.2.2.2.2.2.1)))], [(A 6, .inl (cyI, 6, .inl (upd M.2.2.2.2.2.2.2.2.1 j ((M.2.2.2.2.2.2.2.2.1 j) + ((1 : Int32))))))], [(A 7, .inl (cyI, 6, .inl (upd M.2.2.2.2.2.2.2.2.2.1 j ((M.2.2.2.2.2.2.2.2.2.1 j) + (M.2.1 (1 + k))))))]]) := hD
  have hP : va_P G vwCl (cat [mdW cyI A ((M.1, M.2.1, M.2.2.1, M.2.2.2.1, M.2.2.2.2.1, M.2.2.2.2.2.1, upd M.2.2.2.2.2.2.1 k (nI j), M.2.2.2.2.2.2.2.1, upd M.2.2.2.2.2.2.2.2.1 j (M.2.2.2.2.2.2.2.2.1 j + 1), upd M.2.2.2.2.2.2.2.2.2.1 j (M.2.2.2.2.2.2.2.2.2.1 j + M.2.1 (1 + k)), M.2.2.2.2.2.2.2.2.2.2.1, M.2.2.2.2.2.2.2.2.2.2.2))]) H := hP
  have hD : va_D A9 (cat [mdW cyI A ((M.1, M.2.1, M.2.2.1, M.2.2.2.1, M.2.2.2.2.1, M.2.2.2.2.2.1, upd M.2.2.2.2.2.2.1 k (nI j), M.2.2.2.2.2.2.2.1, upd M.2.2.2.2.2.2.2.2.1 j (M.2.2.2.2.2.2.2.2.1 j + 1), upd M.2.2.2.2.2.2.2.2.2.1 j (M.2.2.2.2.2.2.2.2.2.1 j + M.2.1 (1 + k)), M.2.2.2.2.2.2.2.2.2.2.1, M.2.2.2.2.2.2.2.2.2.2.2))]) := hD
  exact end_v hx hb hr hlocks hK hP hD hS dX6_give_34
abbrev rm_X6_findQuotas : Room := { frames := 2, cells := 0, slots := 0, locals := 45 }
set_option maxHeartbeats 4000000 in
set_option maxRecDepth 100000 in
theorem c_X6_findQuotas (l : Launch) (G : va_G) (cyI cyO : ClassId) (A : Nat → Nat) (M : MS) (n : Nat) (hM : MI M.2.1 n) : CV l G (TY cyI cyO) yX6_findQuotas wsX6_findQuotas rm_X6_findQuotas [.ref (A 0)] [mdW cyI A M] [mdW cyI A ((M.1, M.2.1, M.2.2.1, M.2.2.2.1, M.2.2.2.2.1, M.2.2.2.2.2.1, M.2.2.2.2.2.2.1, (itr 6 (fqStep M.2.1 n) (M.2.2.2.2.2.2.2.1, M.2.2.2.2.2.2.2.2.1, M.2.2.2.2.2.2.2.2.2.1)).1, (itr 6 (fqStep M.2.1 n) (M.2.2.2.2.2.2.2.1, M.2.2.2.2.2.2.2.2.1, M.2.2.2.2.2.2.2.2.2.1)).2.1, (itr 6 (fqStep M.2.1 n) (M.2.2.2.2.2.2.2.1, M.2.2.2.2.2.2.2.2.1, M.2.2.2.2.2.2.2.2.2.1)).2.2, M.2.2.2.2.2.2.2.2.2.2.1, M.2.2.2.2.2.2.2.2.2.2.2))] := by
  refine wk_V (cc := cX6_findQuotas) (maxL := 5) (ret := none) (by decide) rfl (Nat.le_of_ble_eq_true rfl) ?_
  intro p9 e9 s9 m9 b9 t9 c9 A9 ls hx hb hr hts hown hlocks hml hK hA hD hP hl hS hnm
  have hl : lv_has ls 5 [(0, .ref (A 0))] := hl
  have hinX6 : ∀ w ∈ wsX60, w ∈ wsX6_findQuotas := by decide +kernel
  have hf22 := hts (.fieldLink RX6 22 "DoorstepRoundsModel" "quota" "[I") (by decide +kernel)
  have hf25 := hts (.fieldLink RX6 25 "DoorstepRoundsModel" "given" "[I") (by decide +kernel)
  have hf28 := hts (.fieldLink RX6 28 "DoorstepRoundsModel" "pintsBy" "[I") (by decide +kernel)
  have hf7 := hts (.fieldLink RX6 7 "DoorstepRoundsModel" "z" "[I") (by decide +kernel)
  have hz : M.2.1 0 = nI n := hM.1
  have hn : n ≤ 20 := hM.2.1
  have hWk := hM.2.2.1
  have hOw := hM.2.2.2
  have hw6 := cW_le (zW M.2.1)
  have hP : va_P G vwCl (cat [[(A 0, .inr (6, [.int (M.1), .ref (A 1), .ref (A 2), .int (nI (M.2.2.2.1)), .ref (A 3), .int (nI (M.2.2.2.2.2.1)), .ref (A 4), .ref (A 5), .ref (A 6), .ref (A 7), .int (M.2.2.2.2.2.2.2.2.2.2.1), .int (M.2.2.2.2.2.2.2.2.2.2.2)]))], [(A 1, .inl (cyI, 91, .inl (M.2.1)))], [(A 2, .inl (cyI, 546, .inl (M.2.2.1)))], [(A 3, .inl (cyI, 60, .inl (M.2.2.2.2.1)))], [(A 4, .inl (cyI, 20, .inl (M.2.2.2.2.2.2.1)))], [(A 5, .inl (cyI, 6, .inl (M.2.2.2.2.2.2.2.1)))], [(A 6, .inl (cyI, 6, .inl (M.2.2.2.2.2.2.2.2.1)))], [(A 7, .inl (cyI, 6, .inl (M.2.2.2.2.2.2.2.2.2.1)))]]) s9.heap := hP
  have hD : va_D A9 (cat [[(A 0, .inr (6, [.int (M.1), .ref (A 1), .ref (A 2), .int (nI (M.2.2.2.1)), .ref (A 3), .int (nI (M.2.2.2.2.2.1)), .ref (A 4), .ref (A 5), .ref (A 6), .ref (A 7), .int (M.2.2.2.2.2.2.2.2.2.2.1), .int (M.2.2.2.2.2.2.2.2.2.2.2)]))], [(A 1, .inl (cyI, 91, .inl (M.2.1)))], [(A 2, .inl (cyI, 546, .inl (M.2.2.1)))], [(A 3, .inl (cyI, 60, .inl (M.2.2.2.2.1)))], [(A 4, .inl (cyI, 20, .inl (M.2.2.2.2.2.2.1)))], [(A 5, .inl (cyI, 6, .inl (M.2.2.2.2.2.2.2.1)))], [(A 6, .inl (cyI, 6, .inl (M.2.2.2.2.2.2.2.2.1)))], [(A 7, .inl (cyI, 6, .inl (M.2.2.2.2.2.2.2.2.2.1)))]]) := hD
  refine lv_aload_n hx hb dX6_findQuotas_0 rfl (lv_at hl 0 rfl) ?_
  have hP : va_P G vwCl (cat [mdW cyI A ((M.1, M.2.1, M.2.2.1, M.2.2.2.1, M.2.2.2.2.1, M.2.2.2.2.2.1, M.2.2.2.2.2.2.1, M.2.2.2.2.2.2.2.1, M.2.2.2.2.2.2.2.2.1, M.2.2.2.2.2.2.2.2.2.1, M.2.2.2.2.2.2.2.2.2.2.1, M.2.2.2.2.2.2.2.2.2.2.2))]) s9.heap := hP
  have hD : va_D A9 (cat [mdW cyI A ((M.1, M.2.1, M.2.2.1, M.2.2.2.1, M.2.2.2.2.1, M.2.2.2.2.2.1, M.2.2.2.2.2.2.1, M.2.2.2.2.2.2.2.1, M.2.2.2.2.2.2.2.2.1, M.2.2.2.2.2.2.2.2.2.1, M.2.2.2.2.2.2.2.2.2.2.1, M.2.2.2.2.2.2.2.2.2.2.2))]) := hD
  refine gVi (gs := [mdW cyI A ((M.1, M.2.1, M.2.2.1, M.2.2.2.1, M.2.2.2.2.1, M.2.2.2.2.2.1, M.2.2.2.2.2.2.1, M.2.2.2.2.2.2.2.1, M.2.2.2.2.2.2.2.2.1, M.2.2.2.2.2.2.2.2.2.1, M.2.2.2.2.2.2.2.2.2.2.1, M.2.2.2.2.2.2.2.2.2.2.2))]) (As := []) (rest := []) ⟨hx, hb, hml, hown, hts⟩ (c_X6_men l G cyI cyO A ((M.1, M.2.1, M.2.2.1, M.2.2.2.1, M.2.2.2.2.1, M.2.2.2.2.2.1, M.2.2.2.2.2.2.1, M.2.2.2.2.2.2.2.1, M.2.2.2.2.2.2.2.2.1, M.2.2.2.2.2.2.2.2.2.1, M.2.2.2.2.2.2.2.2.2.2.1, M.2.2.2.2.2.2.2.2.2.2.2)) n hM) (cwV 0 hts gX6_findQuotas_X6_men rfl rfl rfl (by decide +kernel) ⟨Nat.le_of_ble_eq_true rfl, Nat.le_of_ble_eq_true rfl⟩) hK hP hD hS hA [0] rfl rfl rfl 0 6 rfl rfl rfl hl.1 rfl (Nat.le_of_ble_eq_true rfl) dX6_findQuotas_1 ⟨Nat.le_refl _, Nat.le_refl _⟩ (fun H locs hP hD hS => ?_)
  have hP : va_P G vwCl (cat [mdW cyI A ((M.1, M.2.1, M.2.2.1, M.2.2.2.1, M.2.2.2.2.1, M.2.2.2.2.2.1, M.2.2.2.2.2.2.1, M.2.2.2.2.2.2.2.1, M.2.2.2.2.2.2.2.2.1, M.2.2.2.2.2.2.2.2.2.1, M.2.2.2.2.2.2.2.2.2.2.1, M.2.2.2.2.2.2.2.2.2.2.2))]) H := hP
  have hD : va_D A9 (cat [mdW cyI A ((M.1, M.2.1, M.2.2.1, M.2.2.2.1, M.2.2.2.2.1, M.2.2.2.2.2.1, M.2.2.2.2.2.2.1, M.2.2.2.2.2.2.2.1, M.2.2.2.2.2.2.2.2.1, M.2.2.2.2.2.2.2.2.2.1, M.2.2.2.2.2.2.2.2.2.2.1, M.2.2.2.2.2.2.2.2.2.2.2))]) := hD
  refine lv_istore_n (lv' := [(1, .int (nI (cW (zW M.2.1)))), (0, .ref (A 0))]) hx hb dX6_findQuotas_4 rfl hl (by decide) rfl (fun ls hl => ?_)
  refine lv_iconst (v := (0 : Int32)) hx hb dX6_findQuotas_5 (by decide) ?_
  refine lv_istore_n (lv' := [(2, .int ((0 : Int32))), (1, .int (nI (cW (zW M.2.1)))), (0, .ref (A 0))]) hx hb dX6_findQuotas_6 rfl hl (by decide) rfl (fun ls hl => ?_)
  have hP : va_P G vwCl (cat [[(A 0, .inr (6, [.int (M.1), .ref (A 1), .ref (A 2), .int (nI (M.2.2.2.1)), .ref (A 3), .int (nI (M.2.2.2.2.2.1)), .ref (A 4), .ref (A 5), .ref (A 6), .ref (A 7), .int (M.2.2.2.2.2.2.2.2.2.2.1), .int (M.2.2.2.2.2.2.2.2.2.2.2)]))], [(A 1, .inl (cyI, 91, .inl (M.2.1)))], [(A 2, .inl (cyI, 546, .inl (M.2.2.1)))], [(A 3, .inl (cyI, 60, .inl (M.2.2.2.2.1)))], [(A 4, .inl (cyI, 20, .inl (M.2.2.2.2.2.2.1)))], [(A 5, .inl (cyI, 6, .inl (M.2.2.2.2.2.2.2.1)))], [(A 6, .inl (cyI, 6, .inl (M.2.2.2.2.2.2.2.2.1)))], [(A 7, .inl (cyI, 6, .inl (M.2.2.2.2.2.2.2.2.2.1)))]]) H := hP
  have hD : va_D A9 (cat [[(A 0, .inr (6, [.int (M.1), .ref (A 1), .ref (A 2), .int (nI (M.2.2.2.1)), .ref (A 3), .int (nI (M.2.2.2.2.2.1)), .ref (A 4), .ref (A 5), .ref (A 6), .ref (A 7), .int (M.2.2.2.2.2.2.2.2.2.2.1), .int (M.2.2.2.2.2.2.2.2.2.2.2)]))], [(A 1, .inl (cyI, 91, .inl (M.2.1)))], [(A 2, .inl (cyI, 546, .inl (M.2.2.1)))], [(A 3, .inl (cyI, 60, .inl (M.2.2.2.2.1)))], [(A 4, .inl (cyI, 20, .inl (M.2.2.2.2.2.2.1)))], [(A 5, .inl (cyI, 6, .inl (M.2.2.2.2.2.2.2.1)))], [(A 6, .inl (cyI, 6, .inl (M.2.2.2.2.2.2.2.2.1)))], [(A 7, .inl (cyI, 6, .inl (M.2.2.2.2.2.2.2.2.2.1)))]]) := hD
  refine W_loop (α := Nat × (Nat → Int32) × (Nat → Int32) × (Nat → Int32)) (I := fun a9 H locs ls => (a9.1 ≤ 6) ∧ ((a9.2.1, a9.2.2.1, a9.2.2.2) = itr a9.1 (fqStep M.2.1 n) (M.2.2.2.2.2.2.2.1, M.2.2.2.2.2.2.2.2.1, M.2.2.2.2.2.2.2.2.2.1)) ∧ va_P G vwCl (cat [[(A 0, .inr (6, [.int (M.1), .ref (A 1), .ref (A 2), .int (nI (M.2.2.2.1)), .ref (A 3), .int (nI (M.2.2.2.2.2.1)), .ref (A 4), .ref (A 5), .ref (A 6), .ref (A 7), .int (M.2.2.2.2.2.2.2.2.2.2.1), .int (M.2.2.2.2.2.2.2.2.2.2.2)]))], [(A 1, .inl (cyI, 91, .inl (M.2.1)))], [(A 2, .inl (cyI, 546, .inl (M.2.2.1)))], [(A 3, .inl (cyI, 60, .inl (M.2.2.2.2.1)))], [(A 4, .inl (cyI, 20, .inl (M.2.2.2.2.2.2.1)))], [(A 5, .inl (cyI, 6, .inl (a9.2.1)))], [(A 6, .inl (cyI, 6, .inl (a9.2.2.1)))], [(A 7, .inl (cyI, 6, .inl (a9.2.2.2)))]]) H ∧ va_D A9 (cat [[(A 0, .inr (6, [.int (M.1), .ref (A 1), .ref (A 2), .int (nI (M.2.2.2.1)), .ref (A 3), .int (nI (M.2.2.2.2.2.1)), .ref (A 4), .ref (A 5), .ref (A 6), .ref (A 7), .int (M.2.2.2.2.2.2.2.2.2.2.1), .int (M.2.2.2.2.2.2.2.2.2.2.2)]))], [(A 1, .inl (cyI, 91, .inl (M.2.1)))], [(A 2, .inl (cyI, 546, .inl (M.2.2.1)))], [(A 3, .inl (cyI, 60, .inl (M.2.2.2.2.1)))], [(A 4, .inl (cyI, 20, .inl (M.2.2.2.2.2.2.1)))], [(A 5, .inl (cyI, 6, .inl (a9.2.1)))], [(A 6, .inl (cyI, 6, .inl (a9.2.2.1)))], [(A 7, .inl (cyI, 6, .inl (a9.2.2.2)))]]) ∧ va_S A9 s9.heap H locs ∧ lv_has ls 5 [(2, .int (nI (a9.1))), (1, .int (nI (cW (zW M.2.1)))), (0, .ref (A 0))]) (μ := fun a9 => 6 - a9.1) (st := fun a9 => []) ?_ (0, M.2.2.2.2.2.2.2.1, M.2.2.2.2.2.2.2.2.1, M.2.2.2.2.2.2.2.2.2.1) _ _ _ ⟨(show 0 ≤ 6 from by omega), (show (M.2.2.2.2.2.2.2.1, M.2.2.2.2.2.2.2.2.1, M.2.2.2.2.2.2.2.2.2.1) = itr 0 (fqStep M.2.1 n) (M.2.2.2.2.2.2.2.1, M.2.2.2.2.2.2.2.2.1, M.2.2.2.2.2.2.2.2.2.1) from rfl), hP, hD, hS, lv_sub hl [0, 1, 2] rfl⟩
  intro a9 ih_7 H locs ls hI
  obtain ⟨i, q1, g1, p1⟩ := a9
  obtain ⟨hi9, he9, hP9, hD9, hS9, hl9⟩ := hI
  have hi : i ≤ 6 := hi9
  have he : (q1, g1, p1) = itr i (fqStep M.2.1 n) (M.2.2.2.2.2.2.2.1, M.2.2.2.2.2.2.2.2.1, M.2.2.2.2.2.2.2.2.2.1) := he9
  have hP : va_P G vwCl (cat [[(A 0, .inr (6, [.int (M.1), .ref (A 1), .ref (A 2), .int (nI (M.2.2.2.1)), .ref (A 3), .int (nI (M.2.2.2.2.2.1)), .ref (A 4), .ref (A 5), .ref (A 6), .ref (A 7), .int (M.2.2.2.2.2.2.2.2.2.2.1), .int (M.2.2.2.2.2.2.2.2.2.2.2)]))], [(A 1, .inl (cyI, 91, .inl (M.2.1)))], [(A 2, .inl (cyI, 546, .inl (M.2.2.1)))], [(A 3, .inl (cyI, 60, .inl (M.2.2.2.2.1)))], [(A 4, .inl (cyI, 20, .inl (M.2.2.2.2.2.2.1)))], [(A 5, .inl (cyI, 6, .inl (q1)))], [(A 6, .inl (cyI, 6, .inl (g1)))], [(A 7, .inl (cyI, 6, .inl (p1)))]]) H := hP9
  have hD : va_D A9 (cat [[(A 0, .inr (6, [.int (M.1), .ref (A 1), .ref (A 2), .int (nI (M.2.2.2.1)), .ref (A 3), .int (nI (M.2.2.2.2.2.1)), .ref (A 4), .ref (A 5), .ref (A 6), .ref (A 7), .int (M.2.2.2.2.2.2.2.2.2.2.1), .int (M.2.2.2.2.2.2.2.2.2.2.2)]))], [(A 1, .inl (cyI, 91, .inl (M.2.1)))], [(A 2, .inl (cyI, 546, .inl (M.2.2.1)))], [(A 3, .inl (cyI, 60, .inl (M.2.2.2.2.1)))], [(A 4, .inl (cyI, 20, .inl (M.2.2.2.2.2.2.1)))], [(A 5, .inl (cyI, 6, .inl (q1)))], [(A 6, .inl (cyI, 6, .inl (g1)))], [(A 7, .inl (cyI, 6, .inl (p1)))]]) := hD9
  have hS := hS9
  have hl : lv_has ls 5 [(2, .int (nI (i))), (1, .int (nI (cW (zW M.2.1)))), (0, .ref (A 0))] := hl9
  clear hi9 he9 hP9 hD9 hS9 hl9
  refine lv_iload_n hx hb dX6_findQuotas_7 rfl (lv_at hl 0 rfl) ?_
  refine lv_bipush (v := (6 : Int32)) hx hb dX6_findQuotas_8 (by decide) ?_
  refine lv_icmp_ge (tgt := 122) hx hb dX6_findQuotas_10 (by decide) (fun c_10 => ?_) (fun c_10 => ?_)
  · have c_10 : (6) ≤ (i) := (nI_leI (a := 6) (b := i) (by omega) (by omega)).mp c_10
    obtain rfl : 6 = i := by omega
    have e1 : q1 = (itr 6 (fqStep M.2.1 n) (M.2.2.2.2.2.2.2.1, M.2.2.2.2.2.2.2.2.1, M.2.2.2.2.2.2.2.2.2.1)).1 := congrArg (fun q => q.1) he
    have e2 : g1 = (itr 6 (fqStep M.2.1 n) (M.2.2.2.2.2.2.2.1, M.2.2.2.2.2.2.2.2.1, M.2.2.2.2.2.2.2.2.2.1)).2.1 := congrArg (fun q => q.2.1) he
    have e3 : p1 = (itr 6 (fqStep M.2.1 n) (M.2.2.2.2.2.2.2.1, M.2.2.2.2.2.2.2.2.1, M.2.2.2.2.2.2.2.2.2.1)).2.2 := congrArg (fun q => q.2.2) he
    subst e1 e2 e3
    have hP : va_P G vwCl (cat [mdW cyI A ((M.1, M.2.1, M.2.2.1, M.2.2.2.1, M.2.2.2.2.1, M.2.2.2.2.2.1, M.2.2.2.2.2.2.1, (itr 6 (fqStep M.2.1 n) (M.2.2.2.2.2.2.2.1, M.2.2.2.2.2.2.2.2.1, M.2.2.2.2.2.2.2.2.2.1)).1, (itr 6 (fqStep M.2.1 n) (M.2.2.2.2.2.2.2.1, M.2.2.2.2.2.2.2.2.1, M.2.2.2.2.2.2.2.2.2.1)).2.1, (itr 6 (fqStep M.2.1 n) (M.2.2.2.2.2.2.2.1, M.2.2.2.2.2.2.2.2.1, M.2.2.2.2.2.2.2.2.2.1)).2.2, M.2.2.2.2.2.2.2.2.2.2.1, M.2.2.2.2.2.2.2.2.2.2.2))]) H := hP
    have hD : va_D A9 (cat [mdW cyI A ((M.1, M.2.1, M.2.2.1, M.2.2.2.1, M.2.2.2.2.1, M.2.2.2.2.2.1, M.2.2.2.2.2.2.1, (itr 6 (fqStep M.2.1 n) (M.2.2.2.2.2.2.2.1, M.2.2.2.2.2.2.2.2.1, M.2.2.2.2.2.2.2.2.2.1)).1, (itr 6 (fqStep M.2.1 n) (M.2.2.2.2.2.2.2.1, M.2.2.2.2.2.2.2.2.1, M.2.2.2.2.2.2.2.2.2.1)).2.1, (itr 6 (fqStep M.2.1 n) (M.2.2.2.2.2.2.2.1, M.2.2.2.2.2.2.2.2.1, M.2.2.2.2.2.2.2.2.2.1)).2.2, M.2.2.2.2.2.2.2.2.2.2.1, M.2.2.2.2.2.2.2.2.2.2.2))]) := hD
    exact end_v hx hb hr hlocks hK hP hD hS dX6_findQuotas_122
  · have c_10 : ¬ (6) ≤ (i) := fun h9 => c_10 ((nI_leI (a := 6) (b := i) (by omega) (by omega)).mpr h9)
    refine lv_iconst (v := (0 : Int32)) hx hb dX6_findQuotas_13 (by decide) ?_
    refine lv_istore_n (lv' := [(3, .int ((0 : Int32))), (2, .int (nI (i))), (1, .int (nI (cW (zW M.2.1)))), (0, .ref (A 0))]) hx hb dX6_findQuotas_14 rfl hl (by decide) rfl (fun ls hl => ?_)
    refine lv_iconst (v := (0 : Int32)) hx hb dX6_findQuotas_15 (by decide) ?_
    refine lv_istore (lv' := [(4, .int ((0 : Int32))), (3, .int ((0 : Int32))), (2, .int (nI (i))), (1, .int (nI (cW (zW M.2.1)))), (0, .ref (A 0))]) hx hb dX6_findQuotas_16 hl (by decide) rfl (fun ls hl => ?_)
    refine W_loop (α := Nat × Nat) (I := fun a9 H locs ls => (a9.1 ≤ 6) ∧ (a9.2 ≤ a9.1) ∧ (a9.2 = itr a9.1 (ahStep M.2.1 n i) 0) ∧ va_P G vwCl (cat [[(A 0, .inr (6, [.int (M.1), .ref (A 1), .ref (A 2), .int (nI (M.2.2.2.1)), .ref (A 3), .int (nI (M.2.2.2.2.2.1)), .ref (A 4), .ref (A 5), .ref (A 6), .ref (A 7), .int (M.2.2.2.2.2.2.2.2.2.2.1), .int (M.2.2.2.2.2.2.2.2.2.2.2)]))], [(A 1, .inl (cyI, 91, .inl (M.2.1)))], [(A 2, .inl (cyI, 546, .inl (M.2.2.1)))], [(A 3, .inl (cyI, 60, .inl (M.2.2.2.2.1)))], [(A 4, .inl (cyI, 20, .inl (M.2.2.2.2.2.2.1)))], [(A 5, .inl (cyI, 6, .inl (q1)))], [(A 6, .inl (cyI, 6, .inl (g1)))], [(A 7, .inl (cyI, 6, .inl (p1)))]]) H ∧ va_D A9 (cat [[(A 0, .inr (6, [.int (M.1), .ref (A 1), .ref (A 2), .int (nI (M.2.2.2.1)), .ref (A 3), .int (nI (M.2.2.2.2.2.1)), .ref (A 4), .ref (A 5), .ref (A 6), .ref (A 7), .int (M.2.2.2.2.2.2.2.2.2.2.1), .int (M.2.2.2.2.2.2.2.2.2.2.2)]))], [(A 1, .inl (cyI, 91, .inl (M.2.1)))], [(A 2, .inl (cyI, 546, .inl (M.2.2.1)))], [(A 3, .inl (cyI, 60, .inl (M.2.2.2.2.1)))], [(A 4, .inl (cyI, 20, .inl (M.2.2.2.2.2.2.1)))], [(A 5, .inl (cyI, 6, .inl (q1)))], [(A 6, .inl (cyI, 6, .inl (g1)))], [(A 7, .inl (cyI, 6, .inl (p1)))]]) ∧ va_S A9 s9.heap H locs ∧ lv_has ls 5 [(4, .int (nI (a9.1))), (3, .int (nI (a9.2))), (2, .int (nI (i))), (1, .int (nI (cW (zW M.2.1)))), (0, .ref (A 0))]) (μ := fun a9 => 6 - a9.1) (st := fun a9 => []) ?_ (0, 0) _ _ _ ⟨(show 0 ≤ 6 from by omega), (show 0 ≤ 0 from by omega), (show 0 = itr 0 (ahStep M.2.1 n i) 0 from rfl), hP, hD, hS, lv_sub hl [0, 1, 2, 3, 4] rfl⟩
    intro a9 ih_18 H locs ls hI
    obtain ⟨o, x⟩ := a9
    obtain ⟨ho9, hx69, hax09, hP9, hD9, hS9, hl9⟩ := hI
    have ho : o ≤ 6 := ho9
    have hx6 : x ≤ o := hx69
    have hax0 : x = itr o (ahStep M.2.1 n i) 0 := hax09
    have hP : va_P G vwCl (cat [[(A 0, .inr (6, [.int (M.1), .ref (A 1), .ref (A 2), .int (nI (M.2.2.2.1)), .ref (A 3), .int (nI (M.2.2.2.2.2.1)), .ref (A 4), .ref (A 5), .ref (A 6), .ref (A 7), .int (M.2.2.2.2.2.2.2.2.2.2.1), .int (M.2.2.2.2.2.2.2.2.2.2.2)]))], [(A 1, .inl (cyI, 91, .inl (M.2.1)))], [(A 2, .inl (cyI, 546, .inl (M.2.2.1)))], [(A 3, .inl (cyI, 60, .inl (M.2.2.2.2.1)))], [(A 4, .inl (cyI, 20, .inl (M.2.2.2.2.2.2.1)))], [(A 5, .inl (cyI, 6, .inl (q1)))], [(A 6, .inl (cyI, 6, .inl (g1)))], [(A 7, .inl (cyI, 6, .inl (p1)))]]) H := hP9
    have hD : va_D A9 (cat [[(A 0, .inr (6, [.int (M.1), .ref (A 1), .ref (A 2), .int (nI (M.2.2.2.1)), .ref (A 3), .int (nI (M.2.2.2.2.2.1)), .ref (A 4), .ref (A 5), .ref (A 6), .ref (A 7), .int (M.2.2.2.2.2.2.2.2.2.2.1), .int (M.2.2.2.2.2.2.2.2.2.2.2)]))], [(A 1, .inl (cyI, 91, .inl (M.2.1)))], [(A 2, .inl (cyI, 546, .inl (M.2.2.1)))], [(A 3, .inl (cyI, 60, .inl (M.2.2.2.2.1)))], [(A 4, .inl (cyI, 20, .inl (M.2.2.2.2.2.2.1)))], [(A 5, .inl (cyI, 6, .inl (q1)))], [(A 6, .inl (cyI, 6, .inl (g1)))], [(A 7, .inl (cyI, 6, .inl (p1)))]]) := hD9
    have hS := hS9
    have hl : lv_has ls 5 [(4, .int (nI (o))), (3, .int (nI (x))), (2, .int (nI (i))), (1, .int (nI (cW (zW M.2.1)))), (0, .ref (A 0))] := hl9
    clear ho9 hx69 hax09 hP9 hD9 hS9 hl9
    refine lv_iload hx hb dX6_findQuotas_18 (lv_at hl 0 rfl) ?_
    refine lv_bipush (v := (6 : Int32)) hx hb dX6_findQuotas_20 (by decide) ?_
    refine lv_icmp_ge (tgt := 58) hx hb dX6_findQuotas_22 (by decide) (fun c_22 => ?_) (fun c_22 => ?_)
    · have c_22 : (6) ≤ (o) := (nI_leI (a := 6) (b := o) (by omega) (by omega)).mp c_22
      obtain rfl : 6 = o := by omega
      have hax : x = mAhd M.2.1 n i := hax0
      refine lv_aload_n hx hb dX6_findQuotas_58 rfl (lv_at hl 4 rfl) ?_
      refine va_get (v := .ref (A 5)) (C := RX6) (T := TX6) (N := 12) hx hb hts hinX6 hown hK hP 0 rfl rfl 7 (by decide) hf22 (fun _ h9 => h9) rfl dX6_findQuotas_59 ?_
      refine lv_iload_n hx hb dX6_findQuotas_62 rfl (lv_at hl 2 rfl) ?_
      refine lv_aload_n hx hb dX6_findQuotas_63 rfl (lv_at hl 4 rfl) ?_
      refine lv_iload_n hx hb dX6_findQuotas_64 rfl (lv_at hl 2 rfl) ?_
      have hP : va_P G vwCl (cat [mdW cyI A ((M.1, M.2.1, M.2.2.1, M.2.2.2.1, M.2.2.2.2.1, M.2.2.2.2.2.1, M.2.2.2.2.2.2.1, q1, g1, p1, M.2.2.2.2.2.2.2.2.2.2.1, M.2.2.2.2.2.2.2.2.2.2.2))]) H := hP
      have hD : va_D A9 (cat [mdW cyI A ((M.1, M.2.1, M.2.2.1, M.2.2.2.1, M.2.2.2.2.1, M.2.2.2.2.2.1, M.2.2.2.2.2.2.1, q1, g1, p1, M.2.2.2.2.2.2.2.2.2.2.1, M.2.2.2.2.2.2.2.2.2.2.2))]) := hD
      refine gVi (gs := [mdW cyI A ((M.1, M.2.1, M.2.2.1, M.2.2.2.1, M.2.2.2.2.1, M.2.2.2.2.2.1, M.2.2.2.2.2.2.1, q1, g1, p1, M.2.2.2.2.2.2.2.2.2.2.1, M.2.2.2.2.2.2.2.2.2.2.2))]) (As := [.int (nI (i))]) (rest := [.int (nI (i)), .ref (A 5)]) ⟨hx, hb, hml, hown, hts⟩ (c_X6_works l G cyI cyO A ((M.1, M.2.1, M.2.2.1, M.2.2.2.1, M.2.2.2.2.1, M.2.2.2.2.2.1, M.2.2.2.2.2.2.1, q1, g1, p1, M.2.2.2.2.2.2.2.2.2.2.1, M.2.2.2.2.2.2.2.2.2.2.2)) n hM i (by omega)) (cwV 1 hts gX6_findQuotas_X6_works rfl rfl rfl (by decide +kernel) ⟨Nat.le_of_ble_eq_true rfl, Nat.le_of_ble_eq_true rfl⟩) hK hP hD hS hA [0] rfl rfl rfl 0 6 rfl rfl rfl hl.1 rfl (Nat.le_of_ble_eq_true rfl) dX6_findQuotas_65 ⟨Nat.le_refl _, Nat.le_refl _⟩ (fun H locs hP hD hS => ?_)
      have hP : va_P G vwCl (cat [mdW cyI A ((M.1, M.2.1, M.2.2.1, M.2.2.2.1, M.2.2.2.2.1, M.2.2.2.2.2.1, M.2.2.2.2.2.2.1, q1, g1, p1, M.2.2.2.2.2.2.2.2.2.2.1, M.2.2.2.2.2.2.2.2.2.2.2))]) H := hP
      have hD : va_D A9 (cat [mdW cyI A ((M.1, M.2.1, M.2.2.1, M.2.2.2.1, M.2.2.2.2.1, M.2.2.2.2.2.1, M.2.2.2.2.2.2.1, q1, g1, p1, M.2.2.2.2.2.2.2.2.2.2.1, M.2.2.2.2.2.2.2.2.2.2.2))]) := hD
      refine lv_if_ne (tgt := 75) hx hb dX6_findQuotas_68 (by decide) (fun c_68 => ?_) (fun c_68 => ?_)
      · have c_68 : (decide (M.2.1 (81 + i) = 1)) = true := bI_nz.mp c_68
        have c_68 : (M.2.1 (81 + i) = 1) := of_decide_eq_true c_68
        have hcw : 0 < cW (zW M.2.1) := cW_pos (m := i) (by omega) c_68
        have hmm := Nat.mod_lt n hcw
        have hdd := Nat.div_le_self n (cW (zW M.2.1))
        refine lv_aload_n hx hb dX6_findQuotas_75 rfl (lv_at hl 4 rfl) ?_
        refine va_get (v := .ref (A 1)) (C := RX6) (T := TX6) (N := 12) hx hb hts hinX6 hown hK hP 0 rfl rfl 1 (by decide) hf7 (fun _ h9 => h9) rfl dX6_findQuotas_76 ?_
        refine lv_iconst (v := (0 : Int32)) hx hb dX6_findQuotas_79 (by decide) ?_
        refine r_ild (k := 0) (n := 91) (f := M.2.1) hx hb hK hP 1 0 rfl rfl (by omega) (by omega) rfl dX6_findQuotas_80 ?_
        refine top_i (x' := nI (n)) (hz) ?_
        refine lv_iload_n hx hb dX6_findQuotas_81 rfl (lv_at hl 3 rfl) ?_
        refine lv_idiv hx hb dX6_findQuotas_82 (nI_ne0 hcw (by omega)) ?_
        refine top_i (x' := nI (n / cW (zW M.2.1))) (pk_div (by omega) hcw (by omega)) ?_
        refine lv_iload_n hx hb dX6_findQuotas_83 rfl (lv_at hl 1 rfl) ?_
        refine lv_aload_n hx hb dX6_findQuotas_84 rfl (lv_at hl 4 rfl) ?_
        refine va_get (v := .ref (A 1)) (C := RX6) (T := TX6) (N := 12) hx hb hts hinX6 hown hK hP 0 rfl rfl 1 (by decide) hf7 (fun _ h9 => h9) rfl dX6_findQuotas_85 ?_
        refine lv_iconst (v := (0 : Int32)) hx hb dX6_findQuotas_88 (by decide) ?_
        refine r_ild (k := 0) (n := 91) (f := M.2.1) hx hb hK hP 1 0 rfl rfl (by omega) (by omega) rfl dX6_findQuotas_89 ?_
        refine top_i (x' := nI (n)) (hz) ?_
        refine lv_iload_n hx hb dX6_findQuotas_90 rfl (lv_at hl 3 rfl) ?_
        refine lv_irem hx hb dX6_findQuotas_91 (nI_ne0 hcw (by omega)) ?_
        refine top_i (x' := nI (n % cW (zW M.2.1))) (pk_rem (by omega) hcw (by omega)) ?_
        refine lv_icmp_ge (tgt := 99) hx hb dX6_findQuotas_92 (by decide) (fun c_92 => ?_) (fun c_92 => ?_)
        · have c_92 : (n % cW (zW M.2.1)) ≤ (x) := (nI_leI (a := n % cW (zW M.2.1)) (b := x) (by omega) (by omega)).mp c_92
          refine lv_iconst (v := (0 : Int32)) hx hb dX6_findQuotas_99 (by decide) ?_
          refine lv_iadd hx hb dX6_findQuotas_100 ?_
          refine top_i (x' := nI ((n / cW (zW M.2.1)) + 0)) (nI_add (n / cW (zW M.2.1)) (0)) ?_
          have hP : va_P G vwCl (cat [[(A 0, .inr (6, [.int (M.1), .ref (A 1), .ref (A 2), .int (nI (M.2.2.2.1)), .ref (A 3), .int (nI (M.2.2.2.2.2.1)), .ref (A 4), .ref (A 5), .ref (A 6), .ref (A 7), .int (M.2.2.2.2.2.2.2.2.2.2.1), .int (M.2.2.2.2.2.2.2.2.2.2.2)]))], [(A 1, .inl (cyI, 91, .inl (M.2.1)))], [(A 2, .inl (cyI, 546, .inl (M.2.2.1)))], [(A 3, .inl (cyI, 60, .inl (M.2.2.2.2.1)))], [(A 4, .inl (cyI, 20, .inl (M.2.2.2.2.2.2.1)))], [(A 5, .inl (cyI, 6, .inl (q1)))], [(A 6, .inl (cyI, 6, .inl (g1)))], [(A 7, .inl (cyI, 6, .inl (p1)))]]) H := hP
          have hD : va_D A9 (cat [[(A 0, .inr (6, [.int (M.1), .ref (A 1), .ref (A 2), .int (nI (M.2.2.2.1)), .ref (A 3), .int (nI (M.2.2.2.2.2.1)), .ref (A 4), .ref (A 5), .ref (A 6), .ref (A 7), .int (M.2.2.2.2.2.2.2.2.2.2.1), .int (M.2.2.2.2.2.2.2.2.2.2.2)]))], [(A 1, .inl (cyI, 91, .inl (M.2.1)))], [(A 2, .inl (cyI, 546, .inl (M.2.2.1)))], [(A 3, .inl (cyI, 60, .inl (M.2.2.2.2.1)))], [(A 4, .inl (cyI, 20, .inl (M.2.2.2.2.2.2.1)))], [(A 5, .inl (cyI, 6, .inl (q1)))], [(A 6, .inl (cyI, 6, .inl (g1)))], [(A 7, .inl (cyI, 6, .inl (p1)))]]) := hD
          refine r_ist (k := i) (n := 6) (f := q1) hx hb hK hP hD hS 5 0 rfl rfl (by omega) (by omega) rfl dX6_findQuotas_101 (fun H locs hP hD hS => ?_)
          have hP : va_P G vwCl (cat [[(A 0, .inr (6, [.int (M.1), .ref (A 1), .ref (A 2), .int (nI (M.2.2.2.1)), .ref (A 3), .int (nI (M.2.2.2.2.2.1)), .ref (A 4), .ref (A 5), .ref (A 6), .ref (A 7), .int (M.2.2.2.2.2.2.2.2.2.2.1), .int (M.2.2.2.2.2.2.2.2.2.2.2)]))], [(A 1, .inl (cyI, 91, .inl (M.2.1)))], [(A 2, .inl (cyI, 546, .inl (M.2.2.1)))], [(A 3, .inl (cyI, 60, .inl (M.2.2.2.2.1)))], [(A 4, .inl (cyI, 20, .inl (M.2.2.2.2.2.2.1)))], [(A 5, .inl (cyI, 6, .inl (upd q1 i (nI ((n / cW (zW M.2.1)) + 0)))))], [(A 6, .inl (cyI, 6, .inl (g1)))], [(A 7, .inl (cyI, 6, .inl (p1)))]]) H := hP
          have hD : va_D A9 (cat [[(A 0, .inr (6, [.int (M.1), .ref (A 1), .ref (A 2), .int (nI (M.2.2.2.1)), .ref (A 3), .int (nI (M.2.2.2.2.2.1)), .ref (A 4), .ref (A 5), .ref (A 6), .ref (A 7), .int (M.2.2.2.2.2.2.2.2.2.2.1), .int (M.2.2.2.2.2.2.2.2.2.2.2)]))], [(A 1, .inl (cyI, 91, .inl (M.2.1)))], [(A 2, .inl (cyI, 546, .inl (M.2.2.1)))], [(A 3, .inl (cyI, 60, .inl (M.2.2.2.2.1)))], [(A 4, .inl (cyI, 20, .inl (M.2.2.2.2.2.2.1)))], [(A 5, .inl (cyI, 6, .inl (upd q1 i (nI ((n / cW (zW M.2.1)) + 0)))))], [(A 6, .inl (cyI, 6, .inl (g1)))], [(A 7, .inl (cyI, 6, .inl (p1)))]]) := hD
          refine lv_aload_n hx hb dX6_findQuotas_102 rfl (lv_at hl 4 rfl) ?_
          refine va_get (v := .ref (A 6)) (C := RX6) (T := TX6) (N := 12) hx hb hts hinX6 hown hK hP 0 rfl rfl 8 (by decide) hf25 (fun _ h9 => h9) rfl dX6_findQuotas_103 ?_
          refine lv_iload_n hx hb dX6_findQuotas_106 rfl (lv_at hl 2 rfl) ?_
          refine lv_iconst (v := (0 : Int32)) hx hb dX6_findQuotas_107 (by decide) ?_
          refine r_ist (k := i) (n := 6) (f := g1) hx hb hK hP hD hS 6 0 rfl rfl (by omega) (by omega) rfl dX6_findQuotas_108 (fun H locs hP hD hS => ?_)
          have hP : va_P G vwCl (cat [[(A 0, .inr (6, [.int (M.1), .ref (A 1), .ref (A 2), .int (nI (M.2.2.2.1)), .ref (A 3), .int (nI (M.2.2.2.2.2.1)), .ref (A 4), .ref (A 5), .ref (A 6), .ref (A 7), .int (M.2.2.2.2.2.2.2.2.2.2.1), .int (M.2.2.2.2.2.2.2.2.2.2.2)]))], [(A 1, .inl (cyI, 91, .inl (M.2.1)))], [(A 2, .inl (cyI, 546, .inl (M.2.2.1)))], [(A 3, .inl (cyI, 60, .inl (M.2.2.2.2.1)))], [(A 4, .inl (cyI, 20, .inl (M.2.2.2.2.2.2.1)))], [(A 5, .inl (cyI, 6, .inl (upd q1 i (nI ((n / cW (zW M.2.1)) + 0)))))], [(A 6, .inl (cyI, 6, .inl (upd g1 i ((0 : Int32)))))], [(A 7, .inl (cyI, 6, .inl (p1)))]]) H := hP
          have hD : va_D A9 (cat [[(A 0, .inr (6, [.int (M.1), .ref (A 1), .ref (A 2), .int (nI (M.2.2.2.1)), .ref (A 3), .int (nI (M.2.2.2.2.2.1)), .ref (A 4), .ref (A 5), .ref (A 6), .ref (A 7), .int (M.2.2.2.2.2.2.2.2.2.2.1), .int (M.2.2.2.2.2.2.2.2.2.2.2)]))], [(A 1, .inl (cyI, 91, .inl (M.2.1)))], [(A 2, .inl (cyI, 546, .inl (M.2.2.1)))], [(A 3, .inl (cyI, 60, .inl (M.2.2.2.2.1)))], [(A 4, .inl (cyI, 20, .inl (M.2.2.2.2.2.2.1)))], [(A 5, .inl (cyI, 6, .inl (upd q1 i (nI ((n / cW (zW M.2.1)) + 0)))))], [(A 6, .inl (cyI, 6, .inl (upd g1 i ((0 : Int32)))))], [(A 7, .inl (cyI, 6, .inl (p1)))]]) := hD
          refine lv_aload_n hx hb dX6_findQuotas_109 rfl (lv_at hl 4 rfl) ?_
          refine va_get (v := .ref (A 7)) (C := RX6) (T := TX6) (N := 12) hx hb hts hinX6 hown hK hP 0 rfl rfl 9 (by decide) hf28 (fun _ h9 => h9) rfl dX6_findQuotas_110 ?_
          refine lv_iload_n hx hb dX6_findQuotas_113 rfl (lv_at hl 2 rfl) ?_
          refine lv_iconst (v := (0 : Int32)) hx hb dX6_findQuotas_114 (by decide) ?_
          refine r_ist (k := i) (n := 6) (f := p1) hx hb hK hP hD hS 7 0 rfl rfl (by omega) (by omega) rfl dX6_findQuotas_115 (fun H locs hP hD hS => ?_)
          have hP : va_P G vwCl (cat [[(A 0, .inr (6, [.int (M.1), .ref (A 1), .ref (A 2), .int (nI (M.2.2.2.1)), .ref (A 3), .int (nI (M.2.2.2.2.2.1)), .ref (A 4), .ref (A 5), .ref (A 6), .ref (A 7), .int (M.2.2.2.2.2.2.2.2.2.2.1), .int (M.2.2.2.2.2.2.2.2.2.2.2)]))], [(A 1, .inl (cyI, 91, .inl (M.2.1)))], [(A 2, .inl (cyI, 546, .inl (M.2.2.1)))], [(A 3, .inl (cyI, 60, .inl (M.2.2.2.2.1)))], [(A 4, .inl (cyI, 20, .inl (M.2.2.2.2.2.2.1)))], [(A 5, .inl (cyI, 6, .inl (upd q1 i (nI ((n / cW (zW M.2.1)) + 0)))))], [(A 6, .inl (cyI, 6, .inl (upd g1 i ((0 : Int32)))))], [(A 7, .inl (cyI, 6, .inl (upd p1 i ((0 : Int32)))))]]) H := hP
          have hD : va_D A9 (cat [[(A 0, .inr (6, [.int (M.1), .ref (A 1), .ref (A 2), .int (nI (M.2.2.2.1)), .ref (A 3), .int (nI (M.2.2.2.2.2.1)), .ref (A 4), .ref (A 5), .ref (A 6), .ref (A 7), .int (M.2.2.2.2.2.2.2.2.2.2.1), .int (M.2.2.2.2.2.2.2.2.2.2.2)]))], [(A 1, .inl (cyI, 91, .inl (M.2.1)))], [(A 2, .inl (cyI, 546, .inl (M.2.2.1)))], [(A 3, .inl (cyI, 60, .inl (M.2.2.2.2.1)))], [(A 4, .inl (cyI, 20, .inl (M.2.2.2.2.2.2.1)))], [(A 5, .inl (cyI, 6, .inl (upd q1 i (nI ((n / cW (zW M.2.1)) + 0)))))], [(A 6, .inl (cyI, 6, .inl (upd g1 i ((0 : Int32)))))], [(A 7, .inl (cyI, 6, .inl (upd p1 i ((0 : Int32)))))]]) := hD
          refine lv_iinc (v := nI (i + 1)) (lv' := [(2, .int (nI (i + 1))), (4, .int (nI (6))), (3, .int (nI (x))), (1, .int (nI (cW (zW M.2.1)))), (0, .ref (A 0))]) hx hb dX6_findQuotas_116 hl (k := 2) rfl (nI_add _ _) (by decide) rfl (fun ls hl => ?_)
          refine lv_goto (tgt := 7) hx hb dX6_findQuotas_119 (by decide) ?_
          exact ih_7 (i + 1, upd q1 i (nI ((n / cW (zW M.2.1)) + 0)), upd g1 i ((0 : Int32)), upd p1 i ((0 : Int32))) (by show (6 - (i + 1)) < (6 - i); omega) _ _ _ ⟨(show (i + 1) ≤ 6 from by omega), (show ((upd q1 i (nI ((n / cW (zW M.2.1)) + 0))), (upd g1 i ((0 : Int32))), (upd p1 i ((0 : Int32)))) = itr (i + 1) (fqStep M.2.1 n) (M.2.2.2.2.2.2.2.1, M.2.2.2.2.2.2.2.2.1, M.2.2.2.2.2.2.2.2.2.1) from by show _ = fqStep _ _ i (itr i _ _); rw [← he]; simp [fqStep, mQuo, zW, nI_0, c_10, c_22, c_68, c_92] <;> (try rw [← hax]) <;> (try simp [zW, c_10, c_22, c_68, c_92])), hP, hD, hS, lv_sub hl [0, 3, 4] rfl⟩
        · have c_92 : ¬ (n % cW (zW M.2.1)) ≤ (x) := fun h9 => c_92 ((nI_leI (a := n % cW (zW M.2.1)) (b := x) (by omega) (by omega)).mpr h9)
          refine lv_iconst (v := (1 : Int32)) hx hb dX6_findQuotas_95 (by decide) ?_
          refine lv_goto (tgt := 100) hx hb dX6_findQuotas_96 (by decide) ?_
          refine lv_iadd hx hb dX6_findQuotas_100 ?_
          refine top_i (x' := nI ((n / cW (zW M.2.1)) + 1)) (nI_add (n / cW (zW M.2.1)) (1)) ?_
          have hP : va_P G vwCl (cat [[(A 0, .inr (6, [.int (M.1), .ref (A 1), .ref (A 2), .int (nI (M.2.2.2.1)), .ref (A 3), .int (nI (M.2.2.2.2.2.1)), .ref (A 4), .ref (A 5), .ref (A 6), .ref (A 7), .int (M.2.2.2.2.2.2.2.2.2.2.1), .int (M.2.2.2.2.2.2.2.2.2.2.2)]))], [(A 1, .inl (cyI, 91, .inl (M.2.1)))], [(A 2, .inl (cyI, 546, .inl (M.2.2.1)))], [(A 3, .inl (cyI, 60, .inl (M.2.2.2.2.1)))], [(A 4, .inl (cyI, 20, .inl (M.2.2.2.2.2.2.1)))], [(A 5, .inl (cyI, 6, .inl (q1)))], [(A 6, .inl (cyI, 6, .inl (g1)))], [(A 7, .inl (cyI, 6, .inl (p1)))]]) H := hP
          have hD : va_D A9 (cat [[(A 0, .inr (6, [.int (M.1), .ref (A 1), .ref (A 2), .int (nI (M.2.2.2.1)), .ref (A 3), .int (nI (M.2.2.2.2.2.1)), .ref (A 4), .ref (A 5), .ref (A 6), .ref (A 7), .int (M.2.2.2.2.2.2.2.2.2.2.1), .int (M.2.2.2.2.2.2.2.2.2.2.2)]))], [(A 1, .inl (cyI, 91, .inl (M.2.1)))], [(A 2, .inl (cyI, 546, .inl (M.2.2.1)))], [(A 3, .inl (cyI, 60, .inl (M.2.2.2.2.1)))], [(A 4, .inl (cyI, 20, .inl (M.2.2.2.2.2.2.1)))], [(A 5, .inl (cyI, 6, .inl (q1)))], [(A 6, .inl (cyI, 6, .inl (g1)))], [(A 7, .inl (cyI, 6, .inl (p1)))]]) := hD
          refine r_ist (k := i) (n := 6) (f := q1) hx hb hK hP hD hS 5 0 rfl rfl (by omega) (by omega) rfl dX6_findQuotas_101 (fun H locs hP hD hS => ?_)
          have hP : va_P G vwCl (cat [[(A 0, .inr (6, [.int (M.1), .ref (A 1), .ref (A 2), .int (nI (M.2.2.2.1)), .ref (A 3), .int (nI (M.2.2.2.2.2.1)), .ref (A 4), .ref (A 5), .ref (A 6), .ref (A 7), .int (M.2.2.2.2.2.2.2.2.2.2.1), .int (M.2.2.2.2.2.2.2.2.2.2.2)]))], [(A 1, .inl (cyI, 91, .inl (M.2.1)))], [(A 2, .inl (cyI, 546, .inl (M.2.2.1)))], [(A 3, .inl (cyI, 60, .inl (M.2.2.2.2.1)))], [(A 4, .inl (cyI, 20, .inl (M.2.2.2.2.2.2.1)))], [(A 5, .inl (cyI, 6, .inl (upd q1 i (nI ((n / cW (zW M.2.1)) + 1)))))], [(A 6, .inl (cyI, 6, .inl (g1)))], [(A 7, .inl (cyI, 6, .inl (p1)))]]) H := hP
          have hD : va_D A9 (cat [[(A 0, .inr (6, [.int (M.1), .ref (A 1), .ref (A 2), .int (nI (M.2.2.2.1)), .ref (A 3), .int (nI (M.2.2.2.2.2.1)), .ref (A 4), .ref (A 5), .ref (A 6), .ref (A 7), .int (M.2.2.2.2.2.2.2.2.2.2.1), .int (M.2.2.2.2.2.2.2.2.2.2.2)]))], [(A 1, .inl (cyI, 91, .inl (M.2.1)))], [(A 2, .inl (cyI, 546, .inl (M.2.2.1)))], [(A 3, .inl (cyI, 60, .inl (M.2.2.2.2.1)))], [(A 4, .inl (cyI, 20, .inl (M.2.2.2.2.2.2.1)))], [(A 5, .inl (cyI, 6, .inl (upd q1 i (nI ((n / cW (zW M.2.1)) + 1)))))], [(A 6, .inl (cyI, 6, .inl (g1)))], [(A 7, .inl (cyI, 6, .inl (p1)))]]) := hD
          refine lv_aload_n hx hb dX6_findQuotas_102 rfl (lv_at hl 4 rfl) ?_
          refine va_get (v := .ref (A 6)) (C := RX6) (T := TX6) (N := 12) hx hb hts hinX6 hown hK hP 0 rfl rfl 8 (by decide) hf25 (fun _ h9 => h9) rfl dX6_findQuotas_103 ?_
          refine lv_iload_n hx hb dX6_findQuotas_106 rfl (lv_at hl 2 rfl) ?_
          refine lv_iconst (v := (0 : Int32)) hx hb dX6_findQuotas_107 (by decide) ?_
          refine r_ist (k := i) (n := 6) (f := g1) hx hb hK hP hD hS 6 0 rfl rfl (by omega) (by omega) rfl dX6_findQuotas_108 (fun H locs hP hD hS => ?_)
          have hP : va_P G vwCl (cat [[(A 0, .inr (6, [.int (M.1), .ref (A 1), .ref (A 2), .int (nI (M.2.2.2.1)), .ref (A 3), .int (nI (M.2.2.2.2.2.1)), .ref (A 4), .ref (A 5), .ref (A 6), .ref (A 7), .int (M.2.2.2.2.2.2.2.2.2.2.1), .int (M.2.2.2.2.2.2.2.2.2.2.2)]))], [(A 1, .inl (cyI, 91, .inl (M.2.1)))], [(A 2, .inl (cyI, 546, .inl (M.2.2.1)))], [(A 3, .inl (cyI, 60, .inl (M.2.2.2.2.1)))], [(A 4, .inl (cyI, 20, .inl (M.2.2.2.2.2.2.1)))], [(A 5, .inl (cyI, 6, .inl (upd q1 i (nI ((n / cW (zW M.2.1)) + 1)))))], [(A 6, .inl (cyI, 6, .inl (upd g1 i ((0 : Int32)))))], [(A 7, .inl (cyI, 6, .inl (p1)))]]) H := hP
          have hD : va_D A9 (cat [[(A 0, .inr (6, [.int (M.1), .ref (A 1), .ref (A 2), .int (nI (M.2.2.2.1)), .ref (A 3), .int (nI (M.2.2.2.2.2.1)), .ref (A 4), .ref (A 5), .ref (A 6), .ref (A 7), .int (M.2.2.2.2.2.2.2.2.2.2.1), .int (M.2.2.2.2.2.2.2.2.2.2.2)]))], [(A 1, .inl (cyI, 91, .inl (M.2.1)))], [(A 2, .inl (cyI, 546, .inl (M.2.2.1)))], [(A 3, .inl (cyI, 60, .inl (M.2.2.2.2.1)))], [(A 4, .inl (cyI, 20, .inl (M.2.2.2.2.2.2.1)))], [(A 5, .inl (cyI, 6, .inl (upd q1 i (nI ((n / cW (zW M.2.1)) + 1)))))], [(A 6, .inl (cyI, 6, .inl (upd g1 i ((0 : Int32)))))], [(A 7, .inl (cyI, 6, .inl (p1)))]]) := hD
          refine lv_aload_n hx hb dX6_findQuotas_109 rfl (lv_at hl 4 rfl) ?_
          refine va_get (v := .ref (A 7)) (C := RX6) (T := TX6) (N := 12) hx hb hts hinX6 hown hK hP 0 rfl rfl 9 (by decide) hf28 (fun _ h9 => h9) rfl dX6_findQuotas_110 ?_
          refine lv_iload_n hx hb dX6_findQuotas_113 rfl (lv_at hl 2 rfl) ?_
          refine lv_iconst (v := (0 : Int32)) hx hb dX6_findQuotas_114 (by decide) ?_
          refine r_ist (k := i) (n := 6) (f := p1) hx hb hK hP hD hS 7 0 rfl rfl (by omega) (by omega) rfl dX6_findQuotas_115 (fun H locs hP hD hS => ?_)
          have hP : va_P G vwCl (cat [[(A 0, .inr (6, [.int (M.1), .ref (A 1), .ref (A 2), .int (nI (M.2.2.2.1)), .ref (A 3), .int (nI (M.2.2.2.2.2.1)), .ref (A 4), .ref (A 5), .ref (A 6), .ref (A 7), .int (M.2.2.2.2.2.2.2.2.2.2.1), .int (M.2.2.2.2.2.2.2.2.2.2.2)]))], [(A 1, .inl (cyI, 91, .inl (M.2.1)))], [(A 2, .inl (cyI, 546, .inl (M.2.2.1)))], [(A 3, .inl (cyI, 60, .inl (M.2.2.2.2.1)))], [(A 4, .inl (cyI, 20, .inl (M.2.2.2.2.2.2.1)))], [(A 5, .inl (cyI, 6, .inl (upd q1 i (nI ((n / cW (zW M.2.1)) + 1)))))], [(A 6, .inl (cyI, 6, .inl (upd g1 i ((0 : Int32)))))], [(A 7, .inl (cyI, 6, .inl (upd p1 i ((0 : Int32)))))]]) H := hP
          have hD : va_D A9 (cat [[(A 0, .inr (6, [.int (M.1), .ref (A 1), .ref (A 2), .int (nI (M.2.2.2.1)), .ref (A 3), .int (nI (M.2.2.2.2.2.1)), .ref (A 4), .ref (A 5), .ref (A 6), .ref (A 7), .int (M.2.2.2.2.2.2.2.2.2.2.1), .int (M.2.2.2.2.2.2.2.2.2.2.2)]))], [(A 1, .inl (cyI, 91, .inl (M.2.1)))], [(A 2, .inl (cyI, 546, .inl (M.2.2.1)))], [(A 3, .inl (cyI, 60, .inl (M.2.2.2.2.1)))], [(A 4, .inl (cyI, 20, .inl (M.2.2.2.2.2.2.1)))], [(A 5, .inl (cyI, 6, .inl (upd q1 i (nI ((n / cW (zW M.2.1)) + 1)))))], [(A 6, .inl (cyI, 6, .inl (upd g1 i ((0 : Int32)))))], [(A 7, .inl (cyI, 6, .inl (upd p1 i ((0 : Int32)))))]]) := hD
          refine lv_iinc (v := nI (i + 1)) (lv' := [(2, .int (nI (i + 1))), (4, .int (nI (6))), (3, .int (nI (x))), (1, .int (nI (cW (zW M.2.1)))), (0, .ref (A 0))]) hx hb dX6_findQuotas_116 hl (k := 2) rfl (nI_add _ _) (by decide) rfl (fun ls hl => ?_)
          refine lv_goto (tgt := 7) hx hb dX6_findQuotas_119 (by decide) ?_
          exact ih_7 (i + 1, upd q1 i (nI ((n / cW (zW M.2.1)) + 1)), upd g1 i ((0 : Int32)), upd p1 i ((0 : Int32))) (by show (6 - (i + 1)) < (6 - i); omega) _ _ _ ⟨(show (i + 1) ≤ 6 from by omega), (show ((upd q1 i (nI ((n / cW (zW M.2.1)) + 1))), (upd g1 i ((0 : Int32))), (upd p1 i ((0 : Int32)))) = itr (i + 1) (fqStep M.2.1 n) (M.2.2.2.2.2.2.2.1, M.2.2.2.2.2.2.2.2.1, M.2.2.2.2.2.2.2.2.2.1) from by show _ = fqStep _ _ i (itr i _ _); rw [← he]; simp [fqStep, mQuo, zW, nI_0, c_10, c_22, c_68, c_92] <;> (try rw [← hax]) <;> (try simp [zW, c_10, c_22, c_68, c_92])), hP, hD, hS, lv_sub hl [0, 3, 4] rfl⟩
      · have c_68 : (decide (M.2.1 (81 + i) = 1)) = false := bI_z.mp c_68
        have c_68 : ¬ (M.2.1 (81 + i) = 1) := of_decide_eq_false c_68
        refine lv_iconst (v := (0 : Int32)) hx hb dX6_findQuotas_71 (by decide) ?_
        refine lv_goto (tgt := 101) hx hb dX6_findQuotas_72 (by decide) ?_
        have hP : va_P G vwCl (cat [[(A 0, .inr (6, [.int (M.1), .ref (A 1), .ref (A 2), .int (nI (M.2.2.2.1)), .ref (A 3), .int (nI (M.2.2.2.2.2.1)), .ref (A 4), .ref (A 5), .ref (A 6), .ref (A 7), .int (M.2.2.2.2.2.2.2.2.2.2.1), .int (M.2.2.2.2.2.2.2.2.2.2.2)]))], [(A 1, .inl (cyI, 91, .inl (M.2.1)))], [(A 2, .inl (cyI, 546, .inl (M.2.2.1)))], [(A 3, .inl (cyI, 60, .inl (M.2.2.2.2.1)))], [(A 4, .inl (cyI, 20, .inl (M.2.2.2.2.2.2.1)))], [(A 5, .inl (cyI, 6, .inl (q1)))], [(A 6, .inl (cyI, 6, .inl (g1)))], [(A 7, .inl (cyI, 6, .inl (p1)))]]) H := hP
        have hD : va_D A9 (cat [[(A 0, .inr (6, [.int (M.1), .ref (A 1), .ref (A 2), .int (nI (M.2.2.2.1)), .ref (A 3), .int (nI (M.2.2.2.2.2.1)), .ref (A 4), .ref (A 5), .ref (A 6), .ref (A 7), .int (M.2.2.2.2.2.2.2.2.2.2.1), .int (M.2.2.2.2.2.2.2.2.2.2.2)]))], [(A 1, .inl (cyI, 91, .inl (M.2.1)))], [(A 2, .inl (cyI, 546, .inl (M.2.2.1)))], [(A 3, .inl (cyI, 60, .inl (M.2.2.2.2.1)))], [(A 4, .inl (cyI, 20, .inl (M.2.2.2.2.2.2.1)))], [(A 5, .inl (cyI, 6, .inl (q1)))], [(A 6, .inl (cyI, 6, .inl (g1)))], [(A 7, .inl (cyI, 6, .inl (p1)))]]) := hD
        refine r_ist (k := i) (n := 6) (f := q1) hx hb hK hP hD hS 5 0 rfl rfl (by omega) (by omega) rfl dX6_findQuotas_101 (fun H locs hP hD hS => ?_)
        have hP : va_P G vwCl (cat [[(A 0, .inr (6, [.int (M.1), .ref (A 1), .ref (A 2), .int (nI (M.2.2.2.1)), .ref (A 3), .int (nI (M.2.2.2.2.2.1)), .ref (A 4), .ref (A 5), .ref (A 6), .ref (A 7), .int (M.2.2.2.2.2.2.2.2.2.2.1), .int (M.2.2.2.2.2.2.2.2.2.2.2)]))], [(A 1, .inl (cyI, 91, .inl (M.2.1)))], [(A 2, .inl (cyI, 546, .inl (M.2.2.1)))], [(A 3, .inl (cyI, 60, .inl (M.2.2.2.2.1)))], [(A 4, .inl (cyI, 20, .inl (M.2.2.2.2.2.2.1)))], [(A 5, .inl (cyI, 6, .inl (upd q1 i ((0 : Int32)))))], [(A 6, .inl (cyI, 6, .inl (g1)))], [(A 7, .inl (cyI, 6, .inl (p1)))]]) H := hP
        have hD : va_D A9 (cat [[(A 0, .inr (6, [.int (M.1), .ref (A 1), .ref (A 2), .int (nI (M.2.2.2.1)), .ref (A 3), .int (nI (M.2.2.2.2.2.1)), .ref (A 4), .ref (A 5), .ref (A 6), .ref (A 7), .int (M.2.2.2.2.2.2.2.2.2.2.1), .int (M.2.2.2.2.2.2.2.2.2.2.2)]))], [(A 1, .inl (cyI, 91, .inl (M.2.1)))], [(A 2, .inl (cyI, 546, .inl (M.2.2.1)))], [(A 3, .inl (cyI, 60, .inl (M.2.2.2.2.1)))], [(A 4, .inl (cyI, 20, .inl (M.2.2.2.2.2.2.1)))], [(A 5, .inl (cyI, 6, .inl (upd q1 i ((0 : Int32)))))], [(A 6, .inl (cyI, 6, .inl (g1)))], [(A 7, .inl (cyI, 6, .inl (p1)))]]) := hD
        refine lv_aload_n hx hb dX6_findQuotas_102 rfl (lv_at hl 4 rfl) ?_
        refine va_get (v := .ref (A 6)) (C := RX6) (T := TX6) (N := 12) hx hb hts hinX6 hown hK hP 0 rfl rfl 8 (by decide) hf25 (fun _ h9 => h9) rfl dX6_findQuotas_103 ?_
        refine lv_iload_n hx hb dX6_findQuotas_106 rfl (lv_at hl 2 rfl) ?_
        refine lv_iconst (v := (0 : Int32)) hx hb dX6_findQuotas_107 (by decide) ?_
        refine r_ist (k := i) (n := 6) (f := g1) hx hb hK hP hD hS 6 0 rfl rfl (by omega) (by omega) rfl dX6_findQuotas_108 (fun H locs hP hD hS => ?_)
        have hP : va_P G vwCl (cat [[(A 0, .inr (6, [.int (M.1), .ref (A 1), .ref (A 2), .int (nI (M.2.2.2.1)), .ref (A 3), .int (nI (M.2.2.2.2.2.1)), .ref (A 4), .ref (A 5), .ref (A 6), .ref (A 7), .int (M.2.2.2.2.2.2.2.2.2.2.1), .int (M.2.2.2.2.2.2.2.2.2.2.2)]))], [(A 1, .inl (cyI, 91, .inl (M.2.1)))], [(A 2, .inl (cyI, 546, .inl (M.2.2.1)))], [(A 3, .inl (cyI, 60, .inl (M.2.2.2.2.1)))], [(A 4, .inl (cyI, 20, .inl (M.2.2.2.2.2.2.1)))], [(A 5, .inl (cyI, 6, .inl (upd q1 i ((0 : Int32)))))], [(A 6, .inl (cyI, 6, .inl (upd g1 i ((0 : Int32)))))], [(A 7, .inl (cyI, 6, .inl (p1)))]]) H := hP
        have hD : va_D A9 (cat [[(A 0, .inr (6, [.int (M.1), .ref (A 1), .ref (A 2), .int (nI (M.2.2.2.1)), .ref (A 3), .int (nI (M.2.2.2.2.2.1)), .ref (A 4), .ref (A 5), .ref (A 6), .ref (A 7), .int (M.2.2.2.2.2.2.2.2.2.2.1), .int (M.2.2.2.2.2.2.2.2.2.2.2)]))], [(A 1, .inl (cyI, 91, .inl (M.2.1)))], [(A 2, .inl (cyI, 546, .inl (M.2.2.1)))], [(A 3, .inl (cyI, 60, .inl (M.2.2.2.2.1)))], [(A 4, .inl (cyI, 20, .inl (M.2.2.2.2.2.2.1)))], [(A 5, .inl (cyI, 6, .inl (upd q1 i ((0 : Int32)))))], [(A 6, .inl (cyI, 6, .inl (upd g1 i ((0 : Int32)))))], [(A 7, .inl (cyI, 6, .inl (p1)))]]) := hD
        refine lv_aload_n hx hb dX6_findQuotas_109 rfl (lv_at hl 4 rfl) ?_
        refine va_get (v := .ref (A 7)) (C := RX6) (T := TX6) (N := 12) hx hb hts hinX6 hown hK hP 0 rfl rfl 9 (by decide) hf28 (fun _ h9 => h9) rfl dX6_findQuotas_110 ?_
        refine lv_iload_n hx hb dX6_findQuotas_113 rfl (lv_at hl 2 rfl) ?_
        refine lv_iconst (v := (0 : Int32)) hx hb dX6_findQuotas_114 (by decide) ?_
        refine r_ist (k := i) (n := 6) (f := p1) hx hb hK hP hD hS 7 0 rfl rfl (by omega) (by omega) rfl dX6_findQuotas_115 (fun H locs hP hD hS => ?_)
        have hP : va_P G vwCl (cat [[(A 0, .inr (6, [.int (M.1), .ref (A 1), .ref (A 2), .int (nI (M.2.2.2.1)), .ref (A 3), .int (nI (M.2.2.2.2.2.1)), .ref (A 4), .ref (A 5), .ref (A 6), .ref (A 7), .int (M.2.2.2.2.2.2.2.2.2.2.1), .int (M.2.2.2.2.2.2.2.2.2.2.2)]))], [(A 1, .inl (cyI, 91, .inl (M.2.1)))], [(A 2, .inl (cyI, 546, .inl (M.2.2.1)))], [(A 3, .inl (cyI, 60, .inl (M.2.2.2.2.1)))], [(A 4, .inl (cyI, 20, .inl (M.2.2.2.2.2.2.1)))], [(A 5, .inl (cyI, 6, .inl (upd q1 i ((0 : Int32)))))], [(A 6, .inl (cyI, 6, .inl (upd g1 i ((0 : Int32)))))], [(A 7, .inl (cyI, 6, .inl (upd p1 i ((0 : Int32)))))]]) H := hP
        have hD : va_D A9 (cat [[(A 0, .inr (6, [.int (M.1), .ref (A 1), .ref (A 2), .int (nI (M.2.2.2.1)), .ref (A 3), .int (nI (M.2.2.2.2.2.1)), .ref (A 4), .ref (A 5), .ref (A 6), .ref (A 7), .int (M.2.2.2.2.2.2.2.2.2.2.1), .int (M.2.2.2.2.2.2.2.2.2.2.2)]))], [(A 1, .inl (cyI, 91, .inl (M.2.1)))], [(A 2, .inl (cyI, 546, .inl (M.2.2.1)))], [(A 3, .inl (cyI, 60, .inl (M.2.2.2.2.1)))], [(A 4, .inl (cyI, 20, .inl (M.2.2.2.2.2.2.1)))], [(A 5, .inl (cyI, 6, .inl (upd q1 i ((0 : Int32)))))], [(A 6, .inl (cyI, 6, .inl (upd g1 i ((0 : Int32)))))], [(A 7, .inl (cyI, 6, .inl (upd p1 i ((0 : Int32)))))]]) := hD
        refine lv_iinc (v := nI (i + 1)) (lv' := [(2, .int (nI (i + 1))), (4, .int (nI (6))), (3, .int (nI (x))), (1, .int (nI (cW (zW M.2.1)))), (0, .ref (A 0))]) hx hb dX6_findQuotas_116 hl (k := 2) rfl (nI_add _ _) (by decide) rfl (fun ls hl => ?_)
        refine lv_goto (tgt := 7) hx hb dX6_findQuotas_119 (by decide) ?_
        exact ih_7 (i + 1, upd q1 i ((0 : Int32)), upd g1 i ((0 : Int32)), upd p1 i ((0 : Int32))) (by show (6 - (i + 1)) < (6 - i); omega) _ _ _ ⟨(show (i + 1) ≤ 6 from by omega), (show ((upd q1 i ((0 : Int32))), (upd g1 i ((0 : Int32))), (upd p1 i ((0 : Int32)))) = itr (i + 1) (fqStep M.2.1 n) (M.2.2.2.2.2.2.2.1, M.2.2.2.2.2.2.2.2.1, M.2.2.2.2.2.2.2.2.2.1) from by show _ = fqStep _ _ i (itr i _ _); rw [← he]; simp [fqStep, mQuo, zW, nI_0, c_10, c_22, c_68] <;> (try rw [← hax]) <;> (try simp [zW, c_10, c_22, c_68])), hP, hD, hS, lv_sub hl [0, 3, 4] rfl⟩
    · have c_22 : ¬ (6) ≤ (o) := fun h9 => c_22 ((nI_leI (a := 6) (b := o) (by omega) (by omega)).mpr h9)
      refine lv_iload_n hx hb dX6_findQuotas_25 rfl (lv_at hl 1 rfl) ?_
      refine lv_aload_n hx hb dX6_findQuotas_26 rfl (lv_at hl 4 rfl) ?_
      refine lv_iload hx hb dX6_findQuotas_27 (lv_at hl 0 rfl) ?_
      have hP : va_P G vwCl (cat [mdW cyI A ((M.1, M.2.1, M.2.2.1, M.2.2.2.1, M.2.2.2.2.1, M.2.2.2.2.2.1, M.2.2.2.2.2.2.1, q1, g1, p1, M.2.2.2.2.2.2.2.2.2.2.1, M.2.2.2.2.2.2.2.2.2.2.2))]) H := hP
      have hD : va_D A9 (cat [mdW cyI A ((M.1, M.2.1, M.2.2.1, M.2.2.2.1, M.2.2.2.2.1, M.2.2.2.2.2.1, M.2.2.2.2.2.2.1, q1, g1, p1, M.2.2.2.2.2.2.2.2.2.2.1, M.2.2.2.2.2.2.2.2.2.2.2))]) := hD
      refine gVi (gs := [mdW cyI A ((M.1, M.2.1, M.2.2.1, M.2.2.2.1, M.2.2.2.2.1, M.2.2.2.2.2.1, M.2.2.2.2.2.2.1, q1, g1, p1, M.2.2.2.2.2.2.2.2.2.2.1, M.2.2.2.2.2.2.2.2.2.2.2))]) (As := [.int (nI (o))]) (rest := [.int (nI (x))]) ⟨hx, hb, hml, hown, hts⟩ (c_X6_works l G cyI cyO A ((M.1, M.2.1, M.2.2.1, M.2.2.2.1, M.2.2.2.2.1, M.2.2.2.2.2.1, M.2.2.2.2.2.2.1, q1, g1, p1, M.2.2.2.2.2.2.2.2.2.2.1, M.2.2.2.2.2.2.2.2.2.2.2)) n hM o (by omega)) (cwV 1 hts gX6_findQuotas_X6_works rfl rfl rfl (by decide +kernel) ⟨Nat.le_of_ble_eq_true rfl, Nat.le_of_ble_eq_true rfl⟩) hK hP hD hS hA [0] rfl rfl rfl 0 6 rfl rfl rfl hl.1 rfl (Nat.le_of_ble_eq_true rfl) dX6_findQuotas_29 ⟨Nat.le_refl _, Nat.le_refl _⟩ (fun H locs hP hD hS => ?_)
      have hP : va_P G vwCl (cat [mdW cyI A ((M.1, M.2.1, M.2.2.1, M.2.2.2.1, M.2.2.2.2.1, M.2.2.2.2.2.1, M.2.2.2.2.2.2.1, q1, g1, p1, M.2.2.2.2.2.2.2.2.2.2.1, M.2.2.2.2.2.2.2.2.2.2.2))]) H := hP
      have hD : va_D A9 (cat [mdW cyI A ((M.1, M.2.1, M.2.2.1, M.2.2.2.1, M.2.2.2.2.1, M.2.2.2.2.2.1, M.2.2.2.2.2.2.1, q1, g1, p1, M.2.2.2.2.2.2.2.2.2.2.1, M.2.2.2.2.2.2.2.2.2.2.2))]) := hD
      refine lv_if_eq (tgt := 49) hx hb dX6_findQuotas_32 (by decide) (fun c_32 => ?_) (fun c_32 => ?_)
      · have c_32 : (decide (M.2.1 (81 + o) = 1)) = false := bI_z.mp c_32
        have c_32 : ¬ (M.2.1 (81 + o) = 1) := of_decide_eq_false c_32
        refine lv_iconst (v := (0 : Int32)) hx hb dX6_findQuotas_49 (by decide) ?_
        refine lv_iadd hx hb dX6_findQuotas_50 ?_
        refine top_i (x' := nI (x + 0)) (nI_add (x) (0)) ?_
        refine lv_istore_n (lv' := [(3, .int (nI (x + 0))), (4, .int (nI (o))), (2, .int (nI (i))), (1, .int (nI (cW (zW M.2.1)))), (0, .ref (A 0))]) hx hb dX6_findQuotas_51 rfl hl (by decide) rfl (fun ls hl => ?_)
        refine lv_iinc (v := nI (o + 1)) (lv' := [(4, .int (nI (o + 1))), (3, .int (nI (x + 0))), (2, .int (nI (i))), (1, .int (nI (cW (zW M.2.1)))), (0, .ref (A 0))]) hx hb dX6_findQuotas_52 hl (k := 1) rfl (nI_add _ _) (by decide) rfl (fun ls hl => ?_)
        refine lv_goto (tgt := 18) hx hb dX6_findQuotas_55 (by decide) ?_
        exact ih_18 (o + 1, x + 0) (by show (6 - (o + 1)) < (6 - o); omega) _ _ _ ⟨(show (o + 1) ≤ 6 from by omega), (show (x + 0) ≤ (o + 1) from by omega), (show (x + 0) = itr (o + 1) (ahStep M.2.1 n i) 0 from by show _ = ahStep _ _ _ o (itr o _ _); rw [← hax0]; simp [ahStep, zO, zP, zW, c_10, c_22, c_32]), hP, hD, hS, lv_sub hl [0, 1, 2, 3, 4] rfl⟩
      · have c_32 : (decide (M.2.1 (81 + o) = 1)) = true := bI_nz.mp c_32
        have c_32 : (M.2.1 (81 + o) = 1) := of_decide_eq_true c_32
        refine lv_aload_n hx hb dX6_findQuotas_35 rfl (lv_at hl 4 rfl) ?_
        refine lv_iload hx hb dX6_findQuotas_36 (lv_at hl 0 rfl) ?_
        refine lv_iload_n hx hb dX6_findQuotas_38 rfl (lv_at hl 2 rfl) ?_
        refine gVi (gs := [mdW cyI A ((M.1, M.2.1, M.2.2.1, M.2.2.2.1, M.2.2.2.2.1, M.2.2.2.2.2.1, M.2.2.2.2.2.2.1, q1, g1, p1, M.2.2.2.2.2.2.2.2.2.2.1, M.2.2.2.2.2.2.2.2.2.2.2))]) (As := [.int (nI (o)), .int (nI (i))]) (rest := [.int (nI (x))]) ⟨hx, hb, hml, hown, hts⟩ (c_X6_isAhead l G cyI cyO A ((M.1, M.2.1, M.2.2.1, M.2.2.2.1, M.2.2.2.2.1, M.2.2.2.2.2.1, M.2.2.2.2.2.2.1, q1, g1, p1, M.2.2.2.2.2.2.2.2.2.2.1, M.2.2.2.2.2.2.2.2.2.2.2)) n hM o i (by omega) (by omega)) (cwV 2 hts gX6_findQuotas_X6_isAhead rfl rfl rfl (by decide +kernel) ⟨Nat.le_of_ble_eq_true rfl, Nat.le_of_ble_eq_true rfl⟩) hK hP hD hS hA [0] rfl rfl rfl 0 6 rfl rfl rfl hl.1 rfl (Nat.le_of_ble_eq_true rfl) dX6_findQuotas_39 ⟨Nat.le_refl _, Nat.le_refl _⟩ (fun H locs hP hD hS => ?_)
        have hP : va_P G vwCl (cat [mdW cyI A ((M.1, M.2.1, M.2.2.1, M.2.2.2.1, M.2.2.2.2.1, M.2.2.2.2.2.1, M.2.2.2.2.2.2.1, q1, g1, p1, M.2.2.2.2.2.2.2.2.2.2.1, M.2.2.2.2.2.2.2.2.2.2.2))]) H := hP
        have hD : va_D A9 (cat [mdW cyI A ((M.1, M.2.1, M.2.2.1, M.2.2.2.1, M.2.2.2.2.1, M.2.2.2.2.2.1, M.2.2.2.2.2.2.1, q1, g1, p1, M.2.2.2.2.2.2.2.2.2.2.1, M.2.2.2.2.2.2.2.2.2.2.2))]) := hD
        refine lv_if_eq (tgt := 49) hx hb dX6_findQuotas_42 (by decide) (fun c_42 => ?_) (fun c_42 => ?_)
        · have c_42 : (mAhead M.2.1 n o i) = false := bI_z.mp c_42
          refine lv_iconst (v := (0 : Int32)) hx hb dX6_findQuotas_49 (by decide) ?_
          refine lv_iadd hx hb dX6_findQuotas_50 ?_
          refine top_i (x' := nI (x + 0)) (nI_add (x) (0)) ?_
          refine lv_istore_n (lv' := [(3, .int (nI (x + 0))), (4, .int (nI (o))), (2, .int (nI (i))), (1, .int (nI (cW (zW M.2.1)))), (0, .ref (A 0))]) hx hb dX6_findQuotas_51 rfl hl (by decide) rfl (fun ls hl => ?_)
          refine lv_iinc (v := nI (o + 1)) (lv' := [(4, .int (nI (o + 1))), (3, .int (nI (x + 0))), (2, .int (nI (i))), (1, .int (nI (cW (zW M.2.1)))), (0, .ref (A 0))]) hx hb dX6_findQuotas_52 hl (k := 1) rfl (nI_add _ _) (by decide) rfl (fun ls hl => ?_)
          refine lv_goto (tgt := 18) hx hb dX6_findQuotas_55 (by decide) ?_
          exact ih_18 (o + 1, x + 0) (by show (6 - (o + 1)) < (6 - o); omega) _ _ _ ⟨(show (o + 1) ≤ 6 from by omega), (show (x + 0) ≤ (o + 1) from by omega), (show (x + 0) = itr (o + 1) (ahStep M.2.1 n i) 0 from by show _ = ahStep _ _ _ o (itr o _ _); rw [← hax0]; simp [ahStep, zO, zP, zW, c_10, c_22, c_32, c_42]), hP, hD, hS, lv_sub hl [0, 1, 2, 3, 4] rfl⟩
        · have c_42 : (mAhead M.2.1 n o i) = true := bI_nz.mp c_42
          refine lv_iconst (v := (1 : Int32)) hx hb dX6_findQuotas_45 (by decide) ?_
          refine lv_goto (tgt := 50) hx hb dX6_findQuotas_46 (by decide) ?_
          refine lv_iadd hx hb dX6_findQuotas_50 ?_
          refine top_i (x' := nI (x + 1)) (nI_add (x) (1)) ?_
          refine lv_istore_n (lv' := [(3, .int (nI (x + 1))), (4, .int (nI (o))), (2, .int (nI (i))), (1, .int (nI (cW (zW M.2.1)))), (0, .ref (A 0))]) hx hb dX6_findQuotas_51 rfl hl (by decide) rfl (fun ls hl => ?_)
          refine lv_iinc (v := nI (o + 1)) (lv' := [(4, .int (nI (o + 1))), (3, .int (nI (x + 1))), (2, .int (nI (i))), (1, .int (nI (cW (zW M.2.1)))), (0, .ref (A 0))]) hx hb dX6_findQuotas_52 hl (k := 1) rfl (nI_add _ _) (by decide) rfl (fun ls hl => ?_)
          refine lv_goto (tgt := 18) hx hb dX6_findQuotas_55 (by decide) ?_
          exact ih_18 (o + 1, x + 1) (by show (6 - (o + 1)) < (6 - o); omega) _ _ _ ⟨(show (o + 1) ≤ 6 from by omega), (show (x + 1) ≤ (o + 1) from by omega), (show (x + 1) = itr (o + 1) (ahStep M.2.1 n i) 0 from by show _ = ahStep _ _ _ o (itr o _ _); rw [← hax0]; simp [ahStep, zO, zP, zW, c_10, c_22, c_32, c_42]), hP, hD, hS, lv_sub hl [0, 1, 2, 3, 4] rfl⟩
abbrev rm_X6_keepOwn : Room := { frames := 1, cells := 0, slots := 0, locals := 22 }
set_option maxHeartbeats 4000000 in
set_option maxRecDepth 100000 in
theorem c_X6_keepOwn (l : Launch) (G : va_G) (cyI cyO : ClassId) (A : Nat → Nat) (M : MS) (n : Nat) (hM : MI M.2.1 n) : CV l G (TY cyI cyO) yX6_keepOwn wsX6_keepOwn rm_X6_keepOwn [.ref (A 0)] [mdW cyI A M] [mdW cyI A ((M.1, M.2.1, M.2.2.1, M.2.2.2.1, M.2.2.2.2.1, M.2.2.2.2.2.1, (koAll M.2.1 n M.2.2.2.2.2.2.2.1 (M.2.2.2.2.2.2.1, M.2.2.2.2.2.2.2.2.1, M.2.2.2.2.2.2.2.2.2.1)).1, M.2.2.2.2.2.2.2.1, (koAll M.2.1 n M.2.2.2.2.2.2.2.1 (M.2.2.2.2.2.2.1, M.2.2.2.2.2.2.2.2.1, M.2.2.2.2.2.2.2.2.2.1)).2.1, (koAll M.2.1 n M.2.2.2.2.2.2.2.1 (M.2.2.2.2.2.2.1, M.2.2.2.2.2.2.2.2.1, M.2.2.2.2.2.2.2.2.2.1)).2.2, M.2.2.2.2.2.2.2.2.2.2.1, M.2.2.2.2.2.2.2.2.2.2.2))] := by
  refine wk_V (cc := cX6_keepOwn) (maxL := 5) (ret := none) (by decide) rfl (Nat.le_of_ble_eq_true rfl) ?_
  intro p9 e9 s9 m9 b9 t9 c9 A9 ls hx hb hr hts hown hlocks hml hK hA hD hP hl hS hnm
  have hl : lv_has ls 5 [(0, .ref (A 0))] := hl
  have hinX6 : ∀ w ∈ wsX60, w ∈ wsX6_keepOwn := by decide +kernel
  have hf19 := hts (.fieldLink RX6 19 "DoorstepRoundsModel" "goal" "[I") (by decide +kernel)
  have hf22 := hts (.fieldLink RX6 22 "DoorstepRoundsModel" "quota" "[I") (by decide +kernel)
  have hf7 := hts (.fieldLink RX6 7 "DoorstepRoundsModel" "z" "[I") (by decide +kernel)
  have hz : M.2.1 0 = nI n := hM.1
  have hn : n ≤ 20 := hM.2.1
  have hWk := hM.2.2.1
  have hOw := hM.2.2.2
  have hP : va_P G vwCl (cat [[(A 0, .inr (6, [.int (M.1), .ref (A 1), .ref (A 2), .int (nI (M.2.2.2.1)), .ref (A 3), .int (nI (M.2.2.2.2.2.1)), .ref (A 4), .ref (A 5), .ref (A 6), .ref (A 7), .int (M.2.2.2.2.2.2.2.2.2.2.1), .int (M.2.2.2.2.2.2.2.2.2.2.2)]))], [(A 1, .inl (cyI, 91, .inl (M.2.1)))], [(A 2, .inl (cyI, 546, .inl (M.2.2.1)))], [(A 3, .inl (cyI, 60, .inl (M.2.2.2.2.1)))], [(A 4, .inl (cyI, 20, .inl (M.2.2.2.2.2.2.1)))], [(A 5, .inl (cyI, 6, .inl (M.2.2.2.2.2.2.2.1)))], [(A 6, .inl (cyI, 6, .inl (M.2.2.2.2.2.2.2.2.1)))], [(A 7, .inl (cyI, 6, .inl (M.2.2.2.2.2.2.2.2.2.1)))]]) s9.heap := hP
  have hD : va_D A9 (cat [[(A 0, .inr (6, [.int (M.1), .ref (A 1), .ref (A 2), .int (nI (M.2.2.2.1)), .ref (A 3), .int (nI (M.2.2.2.2.2.1)), .ref (A 4), .ref (A 5), .ref (A 6), .ref (A 7), .int (M.2.2.2.2.2.2.2.2.2.2.1), .int (M.2.2.2.2.2.2.2.2.2.2.2)]))], [(A 1, .inl (cyI, 91, .inl (M.2.1)))], [(A 2, .inl (cyI, 546, .inl (M.2.2.1)))], [(A 3, .inl (cyI, 60, .inl (M.2.2.2.2.1)))], [(A 4, .inl (cyI, 20, .inl (M.2.2.2.2.2.2.1)))], [(A 5, .inl (cyI, 6, .inl (M.2.2.2.2.2.2.2.1)))], [(A 6, .inl (cyI, 6, .inl (M.2.2.2.2.2.2.2.2.1)))], [(A 7, .inl (cyI, 6, .inl (M.2.2.2.2.2.2.2.2.2.1)))]]) := hD
  refine lv_iconst (v := (0 : Int32)) hx hb dX6_keepOwn_0 (by decide) ?_
  refine lv_istore_n (lv' := [(1, .int ((0 : Int32))), (0, .ref (A 0))]) hx hb dX6_keepOwn_1 rfl hl (by decide) rfl (fun ls hl => ?_)
  refine W_loop (α := Nat × (Nat → Int32) × (Nat → Int32) × (Nat → Int32)) (I := fun a9 H locs ls => (a9.1 ≤ n) ∧ ((a9.2.1, a9.2.2.1, a9.2.2.2) = itr a9.1 (koStep M.2.1 n M.2.2.2.2.2.2.2.1) (M.2.2.2.2.2.2.1, M.2.2.2.2.2.2.2.2.1, M.2.2.2.2.2.2.2.2.2.1)) ∧ va_P G vwCl (cat [[(A 0, .inr (6, [.int (M.1), .ref (A 1), .ref (A 2), .int (nI (M.2.2.2.1)), .ref (A 3), .int (nI (M.2.2.2.2.2.1)), .ref (A 4), .ref (A 5), .ref (A 6), .ref (A 7), .int (M.2.2.2.2.2.2.2.2.2.2.1), .int (M.2.2.2.2.2.2.2.2.2.2.2)]))], [(A 1, .inl (cyI, 91, .inl (M.2.1)))], [(A 2, .inl (cyI, 546, .inl (M.2.2.1)))], [(A 3, .inl (cyI, 60, .inl (M.2.2.2.2.1)))], [(A 4, .inl (cyI, 20, .inl (a9.2.1)))], [(A 5, .inl (cyI, 6, .inl (M.2.2.2.2.2.2.2.1)))], [(A 6, .inl (cyI, 6, .inl (a9.2.2.1)))], [(A 7, .inl (cyI, 6, .inl (a9.2.2.2)))]]) H ∧ va_D A9 (cat [[(A 0, .inr (6, [.int (M.1), .ref (A 1), .ref (A 2), .int (nI (M.2.2.2.1)), .ref (A 3), .int (nI (M.2.2.2.2.2.1)), .ref (A 4), .ref (A 5), .ref (A 6), .ref (A 7), .int (M.2.2.2.2.2.2.2.2.2.2.1), .int (M.2.2.2.2.2.2.2.2.2.2.2)]))], [(A 1, .inl (cyI, 91, .inl (M.2.1)))], [(A 2, .inl (cyI, 546, .inl (M.2.2.1)))], [(A 3, .inl (cyI, 60, .inl (M.2.2.2.2.1)))], [(A 4, .inl (cyI, 20, .inl (a9.2.1)))], [(A 5, .inl (cyI, 6, .inl (M.2.2.2.2.2.2.2.1)))], [(A 6, .inl (cyI, 6, .inl (a9.2.2.1)))], [(A 7, .inl (cyI, 6, .inl (a9.2.2.2)))]]) ∧ va_S A9 s9.heap H locs ∧ lv_has ls 5 [(1, .int (nI (a9.1))), (0, .ref (A 0))]) (μ := fun a9 => n - a9.1) (st := fun a9 => []) ?_ (0, M.2.2.2.2.2.2.1, M.2.2.2.2.2.2.2.2.1, M.2.2.2.2.2.2.2.2.2.1) _ _ _ ⟨(show 0 ≤ n from by omega), (show (M.2.2.2.2.2.2.1, M.2.2.2.2.2.2.2.2.1, M.2.2.2.2.2.2.2.2.2.1) = itr 0 (koStep M.2.1 n M.2.2.2.2.2.2.2.1) (M.2.2.2.2.2.2.1, M.2.2.2.2.2.2.2.2.1, M.2.2.2.2.2.2.2.2.2.1) from rfl), hP, hD, hS, lv_sub hl [0, 1] rfl⟩
  intro a9 ih_2 H locs ls hI
  obtain ⟨i, g1, v1, p1⟩ := a9
  obtain ⟨hi9, he9, hP9, hD9, hS9, hl9⟩ := hI
  have hi : i ≤ n := hi9
  have he : (g1, v1, p1) = itr i (koStep M.2.1 n M.2.2.2.2.2.2.2.1) (M.2.2.2.2.2.2.1, M.2.2.2.2.2.2.2.2.1, M.2.2.2.2.2.2.2.2.2.1) := he9
  have hP : va_P G vwCl (cat [[(A 0, .inr (6, [.int (M.1), .ref (A 1), .ref (A 2), .int (nI (M.2.2.2.1)), .ref (A 3), .int (nI (M.2.2.2.2.2.1)), .ref (A 4), .ref (A 5), .ref (A 6), .ref (A 7), .int (M.2.2.2.2.2.2.2.2.2.2.1), .int (M.2.2.2.2.2.2.2.2.2.2.2)]))], [(A 1, .inl (cyI, 91, .inl (M.2.1)))], [(A 2, .inl (cyI, 546, .inl (M.2.2.1)))], [(A 3, .inl (cyI, 60, .inl (M.2.2.2.2.1)))], [(A 4, .inl (cyI, 20, .inl (g1)))], [(A 5, .inl (cyI, 6, .inl (M.2.2.2.2.2.2.2.1)))], [(A 6, .inl (cyI, 6, .inl (v1)))], [(A 7, .inl (cyI, 6, .inl (p1)))]]) H := hP9
  have hD : va_D A9 (cat [[(A 0, .inr (6, [.int (M.1), .ref (A 1), .ref (A 2), .int (nI (M.2.2.2.1)), .ref (A 3), .int (nI (M.2.2.2.2.2.1)), .ref (A 4), .ref (A 5), .ref (A 6), .ref (A 7), .int (M.2.2.2.2.2.2.2.2.2.2.1), .int (M.2.2.2.2.2.2.2.2.2.2.2)]))], [(A 1, .inl (cyI, 91, .inl (M.2.1)))], [(A 2, .inl (cyI, 546, .inl (M.2.2.1)))], [(A 3, .inl (cyI, 60, .inl (M.2.2.2.2.1)))], [(A 4, .inl (cyI, 20, .inl (g1)))], [(A 5, .inl (cyI, 6, .inl (M.2.2.2.2.2.2.2.1)))], [(A 6, .inl (cyI, 6, .inl (v1)))], [(A 7, .inl (cyI, 6, .inl (p1)))]]) := hD9
  have hS := hS9
  have hl : lv_has ls 5 [(1, .int (nI (i))), (0, .ref (A 0))] := hl9
  clear hi9 he9 hP9 hD9 hS9 hl9
  refine lv_iload_n hx hb dX6_keepOwn_2 rfl (lv_at hl 0 rfl) ?_
  refine lv_aload_n hx hb dX6_keepOwn_3 rfl (lv_at hl 1 rfl) ?_
  refine va_get (v := .ref (A 1)) (C := RX6) (T := TX6) (N := 12) hx hb hts hinX6 hown hK hP 0 rfl rfl 1 (by decide) hf7 (fun _ h9 => h9) rfl dX6_keepOwn_4 ?_
  refine lv_iconst (v := (0 : Int32)) hx hb dX6_keepOwn_7 (by decide) ?_
  refine r_ild (k := 0) (n := 91) (f := M.2.1) hx hb hK hP 1 0 rfl rfl (by omega) (by omega) rfl dX6_keepOwn_8 ?_
  refine top_i (x' := nI (n)) (hz) ?_
  refine lv_icmp_ge (tgt := 109) hx hb dX6_keepOwn_9 (by decide) (fun c_9 => ?_) (fun c_9 => ?_)
  · have c_9 : (n) ≤ (i) := (nI_leI (a := n) (b := i) (by omega) (by omega)).mp c_9
    obtain rfl : n = i := by omega
    have e1 : g1 = (koAll M.2.1 n M.2.2.2.2.2.2.2.1 (M.2.2.2.2.2.2.1, M.2.2.2.2.2.2.2.2.1, M.2.2.2.2.2.2.2.2.2.1)).1 := congrArg (fun q => q.1) he
    have e2 : v1 = (koAll M.2.1 n M.2.2.2.2.2.2.2.1 (M.2.2.2.2.2.2.1, M.2.2.2.2.2.2.2.2.1, M.2.2.2.2.2.2.2.2.2.1)).2.1 := congrArg (fun q => q.2.1) he
    have e3 : p1 = (koAll M.2.1 n M.2.2.2.2.2.2.2.1 (M.2.2.2.2.2.2.1, M.2.2.2.2.2.2.2.2.1, M.2.2.2.2.2.2.2.2.2.1)).2.2 := congrArg (fun q => q.2.2) he
    subst e1 e2 e3
    have hP : va_P G vwCl (cat [mdW cyI A ((M.1, M.2.1, M.2.2.1, M.2.2.2.1, M.2.2.2.2.1, M.2.2.2.2.2.1, (koAll M.2.1 n M.2.2.2.2.2.2.2.1 (M.2.2.2.2.2.2.1, M.2.2.2.2.2.2.2.2.1, M.2.2.2.2.2.2.2.2.2.1)).1, M.2.2.2.2.2.2.2.1, (koAll M.2.1 n M.2.2.2.2.2.2.2.1 (M.2.2.2.2.2.2.1, M.2.2.2.2.2.2.2.2.1, M.2.2.2.2.2.2.2.2.2.1)).2.1, (koAll M.2.1 n M.2.2.2.2.2.2.2.1 (M.2.2.2.2.2.2.1, M.2.2.2.2.2.2.2.2.1, M.2.2.2.2.2.2.2.2.2.1)).2.2, M.2.2.2.2.2.2.2.2.2.2.1, M.2.2.2.2.2.2.2.2.2.2.2))]) H := hP
    have hD : va_D A9 (cat [mdW cyI A ((M.1, M.2.1, M.2.2.1, M.2.2.2.1, M.2.2.2.2.1, M.2.2.2.2.2.1, (koAll M.2.1 n M.2.2.2.2.2.2.2.1 (M.2.2.2.2.2.2.1, M.2.2.2.2.2.2.2.2.1, M.2.2.2.2.2.2.2.2.2.1)).1, M.2.2.2.2.2.2.2.1, (koAll M.2.1 n M.2.2.2.2.2.2.2.1 (M.2.2.2.2.2.2.1, M.2.2.2.2.2.2.2.2.1, M.2.2.2.2.2.2.2.2.2.1)).2.1, (koAll M.2.1 n M.2.2.2.2.2.2.2.1 (M.2.2.2.2.2.2.1, M.2.2.2.2.2.2.2.2.1, M.2.2.2.2.2.2.2.2.2.1)).2.2, M.2.2.2.2.2.2.2.2.2.2.1, M.2.2.2.2.2.2.2.2.2.2.2))]) := hD
    exact end_v hx hb hr hlocks hK hP hD hS dX6_keepOwn_109
  · have c_9 : ¬ (n) ≤ (i) := fun h9 => c_9 ((nI_leI (a := n) (b := i) (by omega) (by omega)).mpr h9)
    refine lv_aload_n hx hb dX6_keepOwn_12 rfl (lv_at hl 1 rfl) ?_
    refine va_get (v := .ref (A 1)) (C := RX6) (T := TX6) (N := 12) hx hb hts hinX6 hown hK hP 0 rfl rfl 1 (by decide) hf7 (fun _ h9 => h9) rfl dX6_keepOwn_13 ?_
    refine lv_bipush (v := (21 : Int32)) hx hb dX6_keepOwn_16 (by decide) ?_
    refine lv_iload_n hx hb dX6_keepOwn_18 rfl (lv_at hl 0 rfl) ?_
    refine lv_iadd hx hb dX6_keepOwn_19 ?_
    refine top_i (x' := nI (21 + i)) (nI_add (21) (i)) ?_
    refine r_ild (k := 21 + i) (n := 91) (f := M.2.1) hx hb hK hP 1 0 rfl rfl (by omega) (by omega) rfl dX6_keepOwn_20 ?_
    refine lv_istore_n (lv' := [(2, .int (M.2.1 (21 + i))), (1, .int (nI (i))), (0, .ref (A 0))]) hx hb dX6_keepOwn_21 rfl hl (by decide) rfl (fun ls hl => ?_)
    refine lv_aload_n hx hb dX6_keepOwn_22 rfl (lv_at hl 2 rfl) ?_
    refine va_get (v := .ref (A 4)) (C := RX6) (T := TX6) (N := 12) hx hb hts hinX6 hown hK hP 0 rfl rfl 6 (by decide) hf19 (fun _ h9 => h9) rfl dX6_keepOwn_23 ?_
    refine lv_iload_n hx hb dX6_keepOwn_26 rfl (lv_at hl 1 rfl) ?_
    refine lv_iconst (v := (-1 : Int32)) hx hb dX6_keepOwn_27 (by decide) ?_
    refine r_ist (k := i) (n := 20) (f := g1) hx hb hK hP hD hS 4 0 rfl rfl (by omega) (by omega) rfl dX6_keepOwn_28 (fun H locs hP hD hS => ?_)
    have hP : va_P G vwCl (cat [[(A 0, .inr (6, [.int (M.1), .ref (A 1), .ref (A 2), .int (nI (M.2.2.2.1)), .ref (A 3), .int (nI (M.2.2.2.2.2.1)), .ref (A 4), .ref (A 5), .ref (A 6), .ref (A 7), .int (M.2.2.2.2.2.2.2.2.2.2.1), .int (M.2.2.2.2.2.2.2.2.2.2.2)]))], [(A 1, .inl (cyI, 91, .inl (M.2.1)))], [(A 2, .inl (cyI, 546, .inl (M.2.2.1)))], [(A 3, .inl (cyI, 60, .inl (M.2.2.2.2.1)))], [(A 4, .inl (cyI, 20, .inl (upd g1 i ((-1 : Int32)))))], [(A 5, .inl (cyI, 6, .inl (M.2.2.2.2.2.2.2.1)))], [(A 6, .inl (cyI, 6, .inl (v1)))], [(A 7, .inl (cyI, 6, .inl (p1)))]]) H := hP
    have hD : va_D A9 (cat [[(A 0, .inr (6, [.int (M.1), .ref (A 1), .ref (A 2), .int (nI (M.2.2.2.1)), .ref (A 3), .int (nI (M.2.2.2.2.2.1)), .ref (A 4), .ref (A 5), .ref (A 6), .ref (A 7), .int (M.2.2.2.2.2.2.2.2.2.2.1), .int (M.2.2.2.2.2.2.2.2.2.2.2)]))], [(A 1, .inl (cyI, 91, .inl (M.2.1)))], [(A 2, .inl (cyI, 546, .inl (M.2.2.1)))], [(A 3, .inl (cyI, 60, .inl (M.2.2.2.2.1)))], [(A 4, .inl (cyI, 20, .inl (upd g1 i ((-1 : Int32)))))], [(A 5, .inl (cyI, 6, .inl (M.2.2.2.2.2.2.2.1)))], [(A 6, .inl (cyI, 6, .inl (v1)))], [(A 7, .inl (cyI, 6, .inl (p1)))]]) := hD
    refine lv_iload_n hx hb dX6_keepOwn_29 rfl (lv_at hl 0 rfl) ?_
    refine lv_if_lt (tgt := 103) hx hb dX6_keepOwn_30 (by decide) (fun c_30 => ?_) (fun c_30 => ?_)
    · refine lv_iinc (v := nI (i + 1)) (lv' := [(1, .int (nI (i + 1))), (2, .int (M.2.1 (21 + i))), (0, .ref (A 0))]) hx hb dX6_keepOwn_103 hl (k := 1) rfl (nI_add _ _) (by decide) rfl (fun ls hl => ?_)
      refine lv_goto (tgt := 2) hx hb dX6_keepOwn_106 (by decide) ?_
      exact ih_2 (i + 1, upd g1 i ((-1 : Int32)), v1, p1) (by show (n - (i + 1)) < (n - i); omega) _ _ _ ⟨(show (i + 1) ≤ n from by omega), (show ((upd g1 i ((-1 : Int32))), v1, p1) = itr (i + 1) (koStep M.2.1 n M.2.2.2.2.2.2.2.1) (M.2.2.2.2.2.2.1, M.2.2.2.2.2.2.2.2.1, M.2.2.2.2.2.2.2.2.2.1) from by show _ = koStep _ _ _ i (itr i _ _); rw [← he]; first | (simp [koStep, c_9, c_30]; done) | (have hx9 := hax; simp [koStep, gvM, ek, nI_clamp hk31, nI_pos hk31, ← hx9, c_9, c_30])), hP, hD, hS, lv_sub hl [0, 2] rfl⟩
    · obtain ⟨k, hk, ek⟩ := own_nat (hOw i (by omega)) c_30
      have hk31 : k < 2147483648 := by omega
      rw [ek] at hl
      have hl : lv_has ls 5 [(2, .int (nI (k))), (1, .int (nI (i))), (0, .ref (A 0))] := hl
      refine lv_iconst (v := (0 : Int32)) hx hb dX6_keepOwn_33 (by decide) ?_
      refine lv_istore_n (lv' := [(3, .int ((0 : Int32))), (2, .int (nI (k))), (1, .int (nI (i))), (0, .ref (A 0))]) hx hb dX6_keepOwn_34 rfl hl (by decide) rfl (fun ls hl => ?_)
      refine lv_iconst (v := (0 : Int32)) hx hb dX6_keepOwn_35 (by decide) ?_
      refine lv_istore (lv' := [(4, .int ((0 : Int32))), (3, .int ((0 : Int32))), (2, .int (nI (k))), (1, .int (nI (i))), (0, .ref (A 0))]) hx hb dX6_keepOwn_36 hl (by decide) rfl (fun ls hl => ?_)
      refine W_loop (α := Nat × Nat) (I := fun a9 H locs ls => (a9.1 ≤ n) ∧ (a9.2 ≤ a9.1) ∧ (a9.2 = itr a9.1 (kaStep M.2.1 (nI k) i) 0) ∧ va_P G vwCl (cat [[(A 0, .inr (6, [.int (M.1), .ref (A 1), .ref (A 2), .int (nI (M.2.2.2.1)), .ref (A 3), .int (nI (M.2.2.2.2.2.1)), .ref (A 4), .ref (A 5), .ref (A 6), .ref (A 7), .int (M.2.2.2.2.2.2.2.2.2.2.1), .int (M.2.2.2.2.2.2.2.2.2.2.2)]))], [(A 1, .inl (cyI, 91, .inl (M.2.1)))], [(A 2, .inl (cyI, 546, .inl (M.2.2.1)))], [(A 3, .inl (cyI, 60, .inl (M.2.2.2.2.1)))], [(A 4, .inl (cyI, 20, .inl (upd g1 i ((-1 : Int32)))))], [(A 5, .inl (cyI, 6, .inl (M.2.2.2.2.2.2.2.1)))], [(A 6, .inl (cyI, 6, .inl (v1)))], [(A 7, .inl (cyI, 6, .inl (p1)))]]) H ∧ va_D A9 (cat [[(A 0, .inr (6, [.int (M.1), .ref (A 1), .ref (A 2), .int (nI (M.2.2.2.1)), .ref (A 3), .int (nI (M.2.2.2.2.2.1)), .ref (A 4), .ref (A 5), .ref (A 6), .ref (A 7), .int (M.2.2.2.2.2.2.2.2.2.2.1), .int (M.2.2.2.2.2.2.2.2.2.2.2)]))], [(A 1, .inl (cyI, 91, .inl (M.2.1)))], [(A 2, .inl (cyI, 546, .inl (M.2.2.1)))], [(A 3, .inl (cyI, 60, .inl (M.2.2.2.2.1)))], [(A 4, .inl (cyI, 20, .inl (upd g1 i ((-1 : Int32)))))], [(A 5, .inl (cyI, 6, .inl (M.2.2.2.2.2.2.2.1)))], [(A 6, .inl (cyI, 6, .inl (v1)))], [(A 7, .inl (cyI, 6, .inl (p1)))]]) ∧ va_S A9 s9.heap H locs ∧ lv_has ls 5 [(4, .int (nI (a9.1))), (3, .int (nI (a9.2))), (2, .int (nI (k))), (1, .int (nI (i))), (0, .ref (A 0))]) (μ := fun a9 => n - a9.1) (st := fun a9 => []) ?_ (0, 0) _ _ _ ⟨(show 0 ≤ n from by omega), (show 0 ≤ 0 from by omega), (show 0 = itr 0 (kaStep M.2.1 (nI k) i) 0 from rfl), hP, hD, hS, lv_sub hl [0, 1, 2, 3, 4] rfl⟩
      intro a9 ih_38 H locs ls hI
      obtain ⟨o, x⟩ := a9
      obtain ⟨ho9, hx69, hax09, hP9, hD9, hS9, hl9⟩ := hI
      have ho : o ≤ n := ho9
      have hx6 : x ≤ o := hx69
      have hax0 : x = itr o (kaStep M.2.1 (nI k) i) 0 := hax09
      have hP : va_P G vwCl (cat [[(A 0, .inr (6, [.int (M.1), .ref (A 1), .ref (A 2), .int (nI (M.2.2.2.1)), .ref (A 3), .int (nI (M.2.2.2.2.2.1)), .ref (A 4), .ref (A 5), .ref (A 6), .ref (A 7), .int (M.2.2.2.2.2.2.2.2.2.2.1), .int (M.2.2.2.2.2.2.2.2.2.2.2)]))], [(A 1, .inl (cyI, 91, .inl (M.2.1)))], [(A 2, .inl (cyI, 546, .inl (M.2.2.1)))], [(A 3, .inl (cyI, 60, .inl (M.2.2.2.2.1)))], [(A 4, .inl (cyI, 20, .inl (upd g1 i ((-1 : Int32)))))], [(A 5, .inl (cyI, 6, .inl (M.2.2.2.2.2.2.2.1)))], [(A 6, .inl (cyI, 6, .inl (v1)))], [(A 7, .inl (cyI, 6, .inl (p1)))]]) H := hP9
      have hD : va_D A9 (cat [[(A 0, .inr (6, [.int (M.1), .ref (A 1), .ref (A 2), .int (nI (M.2.2.2.1)), .ref (A 3), .int (nI (M.2.2.2.2.2.1)), .ref (A 4), .ref (A 5), .ref (A 6), .ref (A 7), .int (M.2.2.2.2.2.2.2.2.2.2.1), .int (M.2.2.2.2.2.2.2.2.2.2.2)]))], [(A 1, .inl (cyI, 91, .inl (M.2.1)))], [(A 2, .inl (cyI, 546, .inl (M.2.2.1)))], [(A 3, .inl (cyI, 60, .inl (M.2.2.2.2.1)))], [(A 4, .inl (cyI, 20, .inl (upd g1 i ((-1 : Int32)))))], [(A 5, .inl (cyI, 6, .inl (M.2.2.2.2.2.2.2.1)))], [(A 6, .inl (cyI, 6, .inl (v1)))], [(A 7, .inl (cyI, 6, .inl (p1)))]]) := hD9
      have hS := hS9
      have hl : lv_has ls 5 [(4, .int (nI (o))), (3, .int (nI (x))), (2, .int (nI (k))), (1, .int (nI (i))), (0, .ref (A 0))] := hl9
      clear ho9 hx69 hax09 hP9 hD9 hS9 hl9
      refine lv_iload hx hb dX6_keepOwn_38 (lv_at hl 0 rfl) ?_
      refine lv_aload_n hx hb dX6_keepOwn_40 rfl (lv_at hl 4 rfl) ?_
      refine va_get (v := .ref (A 1)) (C := RX6) (T := TX6) (N := 12) hx hb hts hinX6 hown hK hP 0 rfl rfl 1 (by decide) hf7 (fun _ h9 => h9) rfl dX6_keepOwn_41 ?_
      refine lv_iconst (v := (0 : Int32)) hx hb dX6_keepOwn_44 (by decide) ?_
      refine r_ild (k := 0) (n := 91) (f := M.2.1) hx hb hK hP 1 0 rfl rfl (by omega) (by omega) rfl dX6_keepOwn_45 ?_
      refine top_i (x' := nI (n)) (hz) ?_
      refine lv_icmp_ge (tgt := 87) hx hb dX6_keepOwn_46 (by decide) (fun c_46 => ?_) (fun c_46 => ?_)
      · have c_46 : (n) ≤ (o) := (nI_leI (a := n) (b := o) (by omega) (by omega)).mp c_46
        obtain rfl : n = o := by omega
        have hax : x = kaAll M.2.1 n (nI k) i := hax0
        refine lv_iload_n hx hb dX6_keepOwn_87 rfl (lv_at hl 1 rfl) ?_
        refine lv_aload_n hx hb dX6_keepOwn_88 rfl (lv_at hl 4 rfl) ?_
        refine va_get (v := .ref (A 5)) (C := RX6) (T := TX6) (N := 12) hx hb hts hinX6 hown hK hP 0 rfl rfl 7 (by decide) hf22 (fun _ h9 => h9) rfl dX6_keepOwn_89 ?_
        refine lv_iload_n hx hb dX6_keepOwn_92 rfl (lv_at hl 2 rfl) ?_
        refine r_ild (k := k) (n := 6) (f := M.2.2.2.2.2.2.2.1) hx hb hK hP 5 0 rfl rfl (by omega) (by omega) rfl dX6_keepOwn_93 ?_
        refine lv_icmp_ge (tgt := 103) hx hb dX6_keepOwn_94 (by decide) (fun c_94 => ?_) (fun c_94 => ?_)
        · refine lv_iinc (v := nI (i + 1)) (lv' := [(1, .int (nI (i + 1))), (4, .int (nI (n))), (3, .int (nI (x))), (2, .int (nI (k))), (0, .ref (A 0))]) hx hb dX6_keepOwn_103 hl (k := 3) rfl (nI_add _ _) (by decide) rfl (fun ls hl => ?_)
          refine lv_goto (tgt := 2) hx hb dX6_keepOwn_106 (by decide) ?_
          exact ih_2 (i + 1, upd g1 i ((-1 : Int32)), v1, p1) (by show (n - (i + 1)) < (n - i); omega) _ _ _ ⟨(show (i + 1) ≤ n from by omega), (show ((upd g1 i ((-1 : Int32))), v1, p1) = itr (i + 1) (koStep M.2.1 n M.2.2.2.2.2.2.2.1) (M.2.2.2.2.2.2.1, M.2.2.2.2.2.2.2.2.1, M.2.2.2.2.2.2.2.2.2.1) from by show _ = koStep _ _ _ i (itr i _ _); rw [← he]; first | (simp [koStep, c_9, c_30, c_46, c_94]; done) | (have hx9 := hax; simp [koStep, gvM, ek, nI_clamp hk31, nI_pos hk31, ← hx9, c_9, c_30, c_46, c_94])), hP, hD, hS, lv_sub hl [0, 4] rfl⟩
        · refine lv_aload_n hx hb dX6_keepOwn_97 rfl (lv_at hl 4 rfl) ?_
          refine lv_iload_n hx hb dX6_keepOwn_98 rfl (lv_at hl 3 rfl) ?_
          refine lv_iload_n hx hb dX6_keepOwn_99 rfl (lv_at hl 2 rfl) ?_
          have hP : va_P G vwCl (cat [mdW cyI A ((M.1, M.2.1, M.2.2.1, M.2.2.2.1, M.2.2.2.2.1, M.2.2.2.2.2.1, upd g1 i ((-1 : Int32)), M.2.2.2.2.2.2.2.1, v1, p1, M.2.2.2.2.2.2.2.2.2.2.1, M.2.2.2.2.2.2.2.2.2.2.2))]) H := hP
          have hD : va_D A9 (cat [mdW cyI A ((M.1, M.2.1, M.2.2.1, M.2.2.2.1, M.2.2.2.2.1, M.2.2.2.2.2.1, upd g1 i ((-1 : Int32)), M.2.2.2.2.2.2.2.1, v1, p1, M.2.2.2.2.2.2.2.2.2.2.1, M.2.2.2.2.2.2.2.2.2.2.2))]) := hD
          refine gVv (gs := [mdW cyI A ((M.1, M.2.1, M.2.2.1, M.2.2.2.1, M.2.2.2.2.1, M.2.2.2.2.2.1, upd g1 i ((-1 : Int32)), M.2.2.2.2.2.2.2.1, v1, p1, M.2.2.2.2.2.2.2.2.2.2.1, M.2.2.2.2.2.2.2.2.2.2.2))]) (As := [.int (nI (i)), .int (nI (k))]) (rest := []) ⟨hx, hb, hml, hown, hts⟩ (c_X6_give l G cyI cyO A ((M.1, M.2.1, M.2.2.1, M.2.2.2.1, M.2.2.2.2.1, M.2.2.2.2.2.1, upd g1 i ((-1 : Int32)), M.2.2.2.2.2.2.2.1, v1, p1, M.2.2.2.2.2.2.2.2.2.2.1, M.2.2.2.2.2.2.2.2.2.2.2)) n hM i k (by omega) (by omega)) (cwV 2 hts gX6_keepOwn_X6_give rfl rfl rfl (by decide +kernel) ⟨Nat.le_of_ble_eq_true rfl, Nat.le_of_ble_eq_true rfl⟩) hK hP hD hS hA [0] rfl rfl rfl 0 6 rfl rfl rfl hl.1 rfl (Nat.le_of_ble_eq_true rfl) dX6_keepOwn_100 ⟨Nat.le_refl _, Nat.le_refl _⟩ (fun H locs hP hD hS => ?_)
          have hP : va_P G vwCl (cat [mdW cyI A ((M.1, M.2.1, M.2.2.1, M.2.2.2.1, M.2.2.2.2.1, M.2.2.2.2.2.1, upd (upd g1 i ((-1 : Int32))) i (nI k), M.2.2.2.2.2.2.2.1, upd v1 k (v1 k + 1), upd p1 k (p1 k + M.2.1 (1 + i)), M.2.2.2.2.2.2.2.2.2.2.1, M.2.2.2.2.2.2.2.2.2.2.2))]) H := hP
          have hD : va_D A9 (cat [mdW cyI A ((M.1, M.2.1, M.2.2.1, M.2.2.2.1, M.2.2.2.2.1, M.2.2.2.2.2.1, upd (upd g1 i ((-1 : Int32))) i (nI k), M.2.2.2.2.2.2.2.1, upd v1 k (v1 k + 1), upd p1 k (p1 k + M.2.1 (1 + i)), M.2.2.2.2.2.2.2.2.2.2.1, M.2.2.2.2.2.2.2.2.2.2.2))]) := hD
          refine lv_iinc (v := nI (i + 1)) (lv' := [(1, .int (nI (i + 1))), (4, .int (nI (n))), (3, .int (nI (x))), (2, .int (nI (k))), (0, .ref (A 0))]) hx hb dX6_keepOwn_103 hl (k := 3) rfl (nI_add _ _) (by decide) rfl (fun ls hl => ?_)
          refine lv_goto (tgt := 2) hx hb dX6_keepOwn_106 (by decide) ?_
          exact ih_2 (i + 1, upd (upd g1 i ((-1 : Int32))) i (nI k), upd v1 k (v1 k + 1), upd p1 k (p1 k + M.2.1 (1 + i))) (by show (n - (i + 1)) < (n - i); omega) _ _ _ ⟨(show (i + 1) ≤ n from by omega), (show ((upd (upd g1 i ((-1 : Int32))) i (nI k)), (upd v1 k (v1 k + 1)), (upd p1 k (p1 k + M.2.1 (1 + i)))) = itr (i + 1) (koStep M.2.1 n M.2.2.2.2.2.2.2.1) (M.2.2.2.2.2.2.1, M.2.2.2.2.2.2.2.2.1, M.2.2.2.2.2.2.2.2.2.1) from by show _ = koStep _ _ _ i (itr i _ _); rw [← he]; first | (simp [koStep, c_9, c_30, c_46, c_94]; done) | (have hx9 := hax; simp [koStep, gvM, ek, nI_clamp hk31, nI_pos hk31, ← hx9, c_9, c_30, c_46, c_94])), hP, hD, hS, lv_sub hl [0, 4] rfl⟩
      · have c_46 : ¬ (n) ≤ (o) := fun h9 => c_46 ((nI_leI (a := n) (b := o) (by omega) (by omega)).mpr h9)
        refine lv_iload_n hx hb dX6_keepOwn_49 rfl (lv_at hl 1 rfl) ?_
        refine lv_aload_n hx hb dX6_keepOwn_50 rfl (lv_at hl 4 rfl) ?_
        refine va_get (v := .ref (A 1)) (C := RX6) (T := TX6) (N := 12) hx hb hts hinX6 hown hK hP 0 rfl rfl 1 (by decide) hf7 (fun _ h9 => h9) rfl dX6_keepOwn_51 ?_
        refine lv_bipush (v := (21 : Int32)) hx hb dX6_keepOwn_54 (by decide) ?_
        refine lv_iload hx hb dX6_keepOwn_56 (lv_at hl 0 rfl) ?_
        refine lv_iadd hx hb dX6_keepOwn_58 ?_
        refine top_i (x' := nI (21 + o)) (nI_add (21) (o)) ?_
        refine r_ild (k := 21 + o) (n := 91) (f := M.2.1) hx hb hK hP 1 0 rfl rfl (by omega) (by omega) rfl dX6_keepOwn_59 ?_
        refine lv_iload_n hx hb dX6_keepOwn_60 rfl (lv_at hl 2 rfl) ?_
        refine lv_icmp_ne (tgt := 78) hx hb dX6_keepOwn_61 (by decide) (fun c_61 => ?_) (fun c_61 => ?_)
        · refine lv_iconst (v := (0 : Int32)) hx hb dX6_keepOwn_78 (by decide) ?_
          refine lv_iadd hx hb dX6_keepOwn_79 ?_
          refine top_i (x' := nI (x + 0)) (nI_add (x) (0)) ?_
          refine lv_istore_n (lv' := [(3, .int (nI (x + 0))), (4, .int (nI (o))), (2, .int (nI (k))), (1, .int (nI (i))), (0, .ref (A 0))]) hx hb dX6_keepOwn_80 rfl hl (by decide) rfl (fun ls hl => ?_)
          refine lv_iinc (v := nI (o + 1)) (lv' := [(4, .int (nI (o + 1))), (3, .int (nI (x + 0))), (2, .int (nI (k))), (1, .int (nI (i))), (0, .ref (A 0))]) hx hb dX6_keepOwn_81 hl (k := 1) rfl (nI_add _ _) (by decide) rfl (fun ls hl => ?_)
          refine lv_goto (tgt := 38) hx hb dX6_keepOwn_84 (by decide) ?_
          exact ih_38 (o + 1, x + 0) (by show (n - (o + 1)) < (n - o); omega) _ _ _ ⟨(show (o + 1) ≤ n from by omega), (show (x + 0) ≤ (o + 1) from by omega), (show (x + 0) = itr (o + 1) (kaStep M.2.1 (nI k) i) 0 from by show _ = kaStep _ _ _ o (itr o _ _); rw [← hax0]; simp [kaStep, zO, zP, zW, c_9, c_30, c_46, c_61]), hP, hD, hS, lv_sub hl [0, 1, 2, 3, 4] rfl⟩
        · refine lv_aload_n hx hb dX6_keepOwn_64 rfl (lv_at hl 4 rfl) ?_
          refine lv_iload hx hb dX6_keepOwn_65 (lv_at hl 0 rfl) ?_
          refine lv_iload_n hx hb dX6_keepOwn_67 rfl (lv_at hl 3 rfl) ?_
          have hP : va_P G vwCl (cat [mdW cyI A ((M.1, M.2.1, M.2.2.1, M.2.2.2.1, M.2.2.2.2.1, M.2.2.2.2.2.1, upd g1 i ((-1 : Int32)), M.2.2.2.2.2.2.2.1, v1, p1, M.2.2.2.2.2.2.2.2.2.2.1, M.2.2.2.2.2.2.2.2.2.2.2))]) H := hP
          have hD : va_D A9 (cat [mdW cyI A ((M.1, M.2.1, M.2.2.1, M.2.2.2.1, M.2.2.2.2.1, M.2.2.2.2.2.1, upd g1 i ((-1 : Int32)), M.2.2.2.2.2.2.2.1, v1, p1, M.2.2.2.2.2.2.2.2.2.2.1, M.2.2.2.2.2.2.2.2.2.2.2))]) := hD
          refine gVi (gs := [mdW cyI A ((M.1, M.2.1, M.2.2.1, M.2.2.2.1, M.2.2.2.2.1, M.2.2.2.2.2.1, upd g1 i ((-1 : Int32)), M.2.2.2.2.2.2.2.1, v1, p1, M.2.2.2.2.2.2.2.2.2.2.1, M.2.2.2.2.2.2.2.2.2.2.2))]) (As := [.int (nI (o)), .int (nI (i))]) (rest := [.int (nI (x))]) ⟨hx, hb, hml, hown, hts⟩ (c_X6_isDearer l G cyI cyO A ((M.1, M.2.1, M.2.2.1, M.2.2.2.1, M.2.2.2.2.1, M.2.2.2.2.2.1, upd g1 i ((-1 : Int32)), M.2.2.2.2.2.2.2.1, v1, p1, M.2.2.2.2.2.2.2.2.2.2.1, M.2.2.2.2.2.2.2.2.2.2.2)) n hM o i (by omega) (by omega)) (cwV 2 hts gX6_keepOwn_X6_isDearer rfl rfl rfl (by decide +kernel) ⟨Nat.le_of_ble_eq_true rfl, Nat.le_of_ble_eq_true rfl⟩) hK hP hD hS hA [0] rfl rfl rfl 0 6 rfl rfl rfl hl.1 rfl (Nat.le_of_ble_eq_true rfl) dX6_keepOwn_68 ⟨Nat.le_refl _, Nat.le_refl _⟩ (fun H locs hP hD hS => ?_)
          have hP : va_P G vwCl (cat [mdW cyI A ((M.1, M.2.1, M.2.2.1, M.2.2.2.1, M.2.2.2.2.1, M.2.2.2.2.2.1, upd g1 i ((-1 : Int32)), M.2.2.2.2.2.2.2.1, v1, p1, M.2.2.2.2.2.2.2.2.2.2.1, M.2.2.2.2.2.2.2.2.2.2.2))]) H := hP
          have hD : va_D A9 (cat [mdW cyI A ((M.1, M.2.1, M.2.2.1, M.2.2.2.1, M.2.2.2.2.1, M.2.2.2.2.2.1, upd g1 i ((-1 : Int32)), M.2.2.2.2.2.2.2.1, v1, p1, M.2.2.2.2.2.2.2.2.2.2.1, M.2.2.2.2.2.2.2.2.2.2.2))]) := hD
          refine lv_if_eq (tgt := 78) hx hb dX6_keepOwn_71 (by decide) (fun c_71 => ?_) (fun c_71 => ?_)
          · have c_71 : (mDear M.2.1 o i) = false := bI_z.mp c_71
            refine lv_iconst (v := (0 : Int32)) hx hb dX6_keepOwn_78 (by decide) ?_
            refine lv_iadd hx hb dX6_keepOwn_79 ?_
            refine top_i (x' := nI (x + 0)) (nI_add (x) (0)) ?_
            refine lv_istore_n (lv' := [(3, .int (nI (x + 0))), (4, .int (nI (o))), (2, .int (nI (k))), (1, .int (nI (i))), (0, .ref (A 0))]) hx hb dX6_keepOwn_80 rfl hl (by decide) rfl (fun ls hl => ?_)
            refine lv_iinc (v := nI (o + 1)) (lv' := [(4, .int (nI (o + 1))), (3, .int (nI (x + 0))), (2, .int (nI (k))), (1, .int (nI (i))), (0, .ref (A 0))]) hx hb dX6_keepOwn_81 hl (k := 1) rfl (nI_add _ _) (by decide) rfl (fun ls hl => ?_)
            refine lv_goto (tgt := 38) hx hb dX6_keepOwn_84 (by decide) ?_
            exact ih_38 (o + 1, x + 0) (by show (n - (o + 1)) < (n - o); omega) _ _ _ ⟨(show (o + 1) ≤ n from by omega), (show (x + 0) ≤ (o + 1) from by omega), (show (x + 0) = itr (o + 1) (kaStep M.2.1 (nI k) i) 0 from by show _ = kaStep _ _ _ o (itr o _ _); rw [← hax0]; simp [kaStep, zO, zP, zW, c_9, c_30, c_46, c_61, c_71]), hP, hD, hS, lv_sub hl [0, 1, 2, 3, 4] rfl⟩
          · have c_71 : (mDear M.2.1 o i) = true := bI_nz.mp c_71
            refine lv_iconst (v := (1 : Int32)) hx hb dX6_keepOwn_74 (by decide) ?_
            refine lv_goto (tgt := 79) hx hb dX6_keepOwn_75 (by decide) ?_
            refine lv_iadd hx hb dX6_keepOwn_79 ?_
            refine top_i (x' := nI (x + 1)) (nI_add (x) (1)) ?_
            refine lv_istore_n (lv' := [(3, .int (nI (x + 1))), (4, .int (nI (o))), (2, .int (nI (k))), (1, .int (nI (i))), (0, .ref (A 0))]) hx hb dX6_keepOwn_80 rfl hl (by decide) rfl (fun ls hl => ?_)
            refine lv_iinc (v := nI (o + 1)) (lv' := [(4, .int (nI (o + 1))), (3, .int (nI (x + 1))), (2, .int (nI (k))), (1, .int (nI (i))), (0, .ref (A 0))]) hx hb dX6_keepOwn_81 hl (k := 1) rfl (nI_add _ _) (by decide) rfl (fun ls hl => ?_)
            refine lv_goto (tgt := 38) hx hb dX6_keepOwn_84 (by decide) ?_
            exact ih_38 (o + 1, x + 1) (by show (n - (o + 1)) < (n - o); omega) _ _ _ ⟨(show (o + 1) ≤ n from by omega), (show (x + 1) ≤ (o + 1) from by omega), (show (x + 1) = itr (o + 1) (kaStep M.2.1 (nI k) i) 0 from by show _ = kaStep _ _ _ o (itr o _ _); rw [← hax0]; simp [kaStep, zO, zP, zW, c_9, c_30, c_46, c_61, c_71]), hP, hD, hS, lv_sub hl [0, 1, 2, 3, 4] rfl⟩
abbrev rm_X6_nextDoor : Room := { frames := 1, cells := 0, slots := 0, locals := 22 }
set_option maxHeartbeats 4000000 in
set_option maxRecDepth 100000 in
theorem c_X6_nextDoor (l : Launch) (G : va_G) (cyI cyO : ClassId) (A : Nat → Nat) (M : MS) (n : Nat) (hM : MI M.2.1 n) : CI l G (TY cyI cyO) yX6_nextDoor wsX6_nextDoor rm_X6_nextDoor [.ref (A 0)] [mdW cyI A M] (oI (ndAll M.2.1 M.2.2.2.2.2.2.1 n)) [mdW cyI A M] := by
  refine wk_I (cc := cX6_nextDoor) (maxL := 3) (ret := (some .int)) (by decide) rfl (Nat.le_of_ble_eq_true rfl) ?_
  intro p9 e9 s9 m9 b9 t9 c9 A9 ls hx hb hr hts hown hlocks hml hK hA hD hP hl hS hnm
  have hl : lv_has ls 3 [(0, .ref (A 0))] := hl
  have hinX6 : ∀ w ∈ wsX60, w ∈ wsX6_nextDoor := by decide +kernel
  have hf19 := hts (.fieldLink RX6 19 "DoorstepRoundsModel" "goal" "[I") (by decide +kernel)
  have hf7 := hts (.fieldLink RX6 7 "DoorstepRoundsModel" "z" "[I") (by decide +kernel)
  have hz : M.2.1 0 = nI n := hM.1
  have hn : n ≤ 20 := hM.2.1
  have hWk := hM.2.2.1
  have hOw := hM.2.2.2
  refine lv_iconst (v := (-1 : Int32)) hx hb dX6_nextDoor_0 (by decide) ?_
  refine lv_istore_n (lv' := [(1, .int ((-1 : Int32))), (0, .ref (A 0))]) hx hb dX6_nextDoor_1 rfl hl (by decide) rfl (fun ls hl => ?_)
  refine lv_iconst (v := (0 : Int32)) hx hb dX6_nextDoor_2 (by decide) ?_
  refine lv_istore_n (lv' := [(2, .int ((0 : Int32))), (1, .int ((-1 : Int32))), (0, .ref (A 0))]) hx hb dX6_nextDoor_3 rfl hl (by decide) rfl (fun ls hl => ?_)
  refine W_loop (α := Nat × (Option Nat)) (I := fun a9 H locs ls => (a9.1 ≤ n) ∧ (∀ jj, a9.2 = some jj → jj < a9.1) ∧ (a9.2 = itr a9.1 (ndStep M.2.1 M.2.2.2.2.2.2.1) none) ∧ va_P G vwCl (cat [mdW cyI A M]) H ∧ va_D A9 (cat [mdW cyI A M]) ∧ va_S A9 s9.heap H locs ∧ lv_has ls 3 [(2, .int (nI (a9.1))), (1, .int (oI a9.2)), (0, .ref (A 0))]) (μ := fun a9 => n - a9.1) (st := fun a9 => []) ?_ (0, none) _ _ _ ⟨(show 0 ≤ n from by omega), (show ∀ jj, none = some jj → jj < 0 from fun jj h => by cases h), (show none = itr 0 (ndStep M.2.1 M.2.2.2.2.2.2.1) none from rfl), hP, hD, hS, lv_sub hl [0, 1, 2] rfl⟩
  intro a9 ih_4 H locs ls hI
  obtain ⟨i, b⟩ := a9
  obtain ⟨hi9, hbj9, he9, hP9, hD9, hS9, hl9⟩ := hI
  have hi : i ≤ n := hi9
  have hbj : ∀ jj, b = some jj → jj < i := hbj9
  have he : b = itr i (ndStep M.2.1 M.2.2.2.2.2.2.1) none := he9
  have hP : va_P G vwCl (cat [mdW cyI A M]) H := hP9
  have hD : va_D A9 (cat [mdW cyI A M]) := hD9
  have hS := hS9
  have hl : lv_has ls 3 [(2, .int (nI (i))), (1, .int (oI b)), (0, .ref (A 0))] := hl9
  clear hi9 hbj9 he9 hP9 hD9 hS9 hl9
  refine lv_iload_n hx hb dX6_nextDoor_4 rfl (lv_at hl 0 rfl) ?_
  refine lv_aload_n hx hb dX6_nextDoor_5 rfl (lv_at hl 2 rfl) ?_
  refine va_get (v := .ref (A 1)) (C := RX6) (T := TX6) (N := 12) hx hb hts hinX6 hown hK hP 0 rfl rfl 1 (by decide) hf7 (fun _ h9 => h9) rfl dX6_nextDoor_6 ?_
  refine lv_iconst (v := (0 : Int32)) hx hb dX6_nextDoor_9 (by decide) ?_
  refine r_ild (k := 0) (n := 91) (f := M.2.1) hx hb hK hP 1 0 rfl rfl (by omega) (by omega) rfl dX6_nextDoor_10 ?_
  refine top_i (x' := nI (n)) (hz) ?_
  refine lv_icmp_ge (tgt := 48) hx hb dX6_nextDoor_11 (by decide) (fun c_11 => ?_) (fun c_11 => ?_)
  · have c_11 : (n) ≤ (i) := (nI_leI (a := n) (b := i) (by omega) (by omega)).mp c_11
    obtain rfl : n = i := by omega
    refine lv_iload_n hx hb dX6_nextDoor_48 rfl (lv_at hl 1 rfl) ?_
    have hP : va_P G vwCl (cat [mdW cyI A M]) H := hP
    have hD : va_D A9 (cat [mdW cyI A M]) := hD
    exact end_i hx hb hr hlocks hK hP hD hS (by rw [he]; rfl) dX6_nextDoor_49
  · have c_11 : ¬ (n) ≤ (i) := fun h9 => c_11 ((nI_leI (a := n) (b := i) (by omega) (by omega)).mpr h9)
    refine lv_aload_n hx hb dX6_nextDoor_14 rfl (lv_at hl 2 rfl) ?_
    refine va_get (v := .ref (A 4)) (C := RX6) (T := TX6) (N := 12) hx hb hts hinX6 hown hK hP 0 rfl rfl 6 (by decide) hf19 (fun _ h9 => h9) rfl dX6_nextDoor_15 ?_
    refine lv_iload_n hx hb dX6_nextDoor_18 rfl (lv_at hl 0 rfl) ?_
    refine r_ild (k := i) (n := 20) (f := M.2.2.2.2.2.2.1) hx hb hK hP 4 0 rfl rfl (by omega) (by omega) rfl dX6_nextDoor_19 ?_
    refine lv_if_ge (tgt := 40) hx hb dX6_nextDoor_20 (by decide) (fun c_20 => ?_) (fun c_20 => ?_)
    · refine lv_iload_n hx hb dX6_nextDoor_40 rfl (lv_at hl 1 rfl) ?_
      refine lv_istore_n (lv' := [(1, .int (oI b)), (2, .int (nI (i))), (0, .ref (A 0))]) hx hb dX6_nextDoor_41 rfl hl (by decide) rfl (fun ls hl => ?_)
      refine lv_iinc (v := nI (i + 1)) (lv' := [(2, .int (nI (i + 1))), (1, .int (oI b)), (0, .ref (A 0))]) hx hb dX6_nextDoor_42 hl (k := 1) rfl (nI_add _ _) (by decide) rfl (fun ls hl => ?_)
      refine lv_goto (tgt := 4) hx hb dX6_nextDoor_45 (by decide) ?_
      exact ih_4 (i + 1, b) (by show (n - (i + 1)) < (n - i); omega) _ _ _ ⟨(show (i + 1) ≤ n from by omega), (show ∀ jj, b = some jj → jj < (i + 1) from fun jj h => by first | (cases h; omega) | (have := hbj jj h; omega) | (have := hb0; cases h; omega)), (show b = itr (i + 1) (ndStep M.2.1 M.2.2.2.2.2.2.1) none from by show _ = ndStep _ _ i (itr i _ _); rw [← he]; simp [ndStep, c_11, c_20]), hP, hD, hS, lv_sub hl [0, 1, 2] rfl⟩
    · refine lv_iload_n hx hb dX6_nextDoor_23 rfl (lv_at hl 1 rfl) ?_
      refine lv_if_lt (tgt := 36) hx hb dX6_nextDoor_24 (by decide) (fun c_24 => ?_) (fun c_24 => ?_)
      · obtain rfl : none = b := (oI_neg (fun j h => by have := hbj j h; omega) c_24).symm
        refine lv_iload_n hx hb dX6_nextDoor_36 rfl (lv_at hl 0 rfl) ?_
        refine lv_goto (tgt := 41) hx hb dX6_nextDoor_37 (by decide) ?_
        refine lv_istore_n (lv' := [(1, .int (nI (i))), (2, .int (nI (i))), (0, .ref (A 0))]) hx hb dX6_nextDoor_41 rfl hl (by decide) rfl (fun ls hl => ?_)
        refine lv_iinc (v := nI (i + 1)) (lv' := [(2, .int (nI (i + 1))), (1, .int (nI (i))), (0, .ref (A 0))]) hx hb dX6_nextDoor_42 hl (k := 1) rfl (nI_add _ _) (by decide) rfl (fun ls hl => ?_)
        refine lv_goto (tgt := 4) hx hb dX6_nextDoor_45 (by decide) ?_
        exact ih_4 (i + 1, some (i)) (by show (n - (i + 1)) < (n - i); omega) _ _ _ ⟨(show (i + 1) ≤ n from by omega), (show ∀ jj, (some (i)) = some jj → jj < (i + 1) from fun jj h => by first | (cases h; omega) | (have := hbj jj h; omega) | (have := hb0; cases h; omega)), (show (some (i)) = itr (i + 1) (ndStep M.2.1 M.2.2.2.2.2.2.1) none from by show _ = ndStep _ _ i (itr i _ _); rw [← he]; simp [ndStep, c_11, c_20, c_24]), hP, hD, hS, lv_sub hl [0, 1, 2] rfl⟩
      · obtain ⟨j, rfl⟩ := oI_pos c_24
        have hb0 := hbj j rfl
        have hl : lv_has ls 3 [(2, .int (nI (i))), (1, .int (nI (j))), (0, .ref (A 0))] := hl
        refine lv_aload_n hx hb dX6_nextDoor_27 rfl (lv_at hl 2 rfl) ?_
        refine lv_iload_n hx hb dX6_nextDoor_28 rfl (lv_at hl 0 rfl) ?_
        refine lv_iload_n hx hb dX6_nextDoor_29 rfl (lv_at hl 1 rfl) ?_
        refine gVi (gs := [mdW cyI A M]) (As := [.int (nI (i)), .int (nI (j))]) (rest := []) ⟨hx, hb, hml, hown, hts⟩ (c_X6_isDearer l G cyI cyO A M n hM i j (by omega) (by omega)) (cwV 2 hts gX6_nextDoor_X6_isDearer rfl rfl rfl (by decide +kernel) ⟨Nat.le_of_ble_eq_true rfl, Nat.le_of_ble_eq_true rfl⟩) hK hP hD hS hA [0] rfl rfl rfl 0 6 rfl rfl rfl hl.1 rfl (Nat.le_of_ble_eq_true rfl) dX6_nextDoor_30 ⟨Nat.le_refl _, Nat.le_refl _⟩ (fun H locs hP hD hS => ?_)
        have hP : va_P G vwCl (cat [mdW cyI A M]) H := hP
        have hD : va_D A9 (cat [mdW cyI A M]) := hD
        refine lv_if_eq (tgt := 40) hx hb dX6_nextDoor_33 (by decide) (fun c_33 => ?_) (fun c_33 => ?_)
        · have c_33 : (mDear M.2.1 i j) = false := bI_z.mp c_33
          refine lv_iload_n hx hb dX6_nextDoor_40 rfl (lv_at hl 1 rfl) ?_
          refine lv_istore_n (lv' := [(1, .int (nI (j))), (2, .int (nI (i))), (0, .ref (A 0))]) hx hb dX6_nextDoor_41 rfl hl (by decide) rfl (fun ls hl => ?_)
          refine lv_iinc (v := nI (i + 1)) (lv' := [(2, .int (nI (i + 1))), (1, .int (nI (j))), (0, .ref (A 0))]) hx hb dX6_nextDoor_42 hl (k := 1) rfl (nI_add _ _) (by decide) rfl (fun ls hl => ?_)
          refine lv_goto (tgt := 4) hx hb dX6_nextDoor_45 (by decide) ?_
          exact ih_4 (i + 1, some (j)) (by show (n - (i + 1)) < (n - i); omega) _ _ _ ⟨(show (i + 1) ≤ n from by omega), (show ∀ jj, (some (j)) = some jj → jj < (i + 1) from fun jj h => by first | (cases h; omega) | (have := hbj jj h; omega) | (have := hb0; cases h; omega)), (show (some (j)) = itr (i + 1) (ndStep M.2.1 M.2.2.2.2.2.2.1) none from by show _ = ndStep _ _ i (itr i _ _); rw [← he]; simp [ndStep, c_11, c_20, c_24, c_33]), hP, hD, hS, lv_sub hl [0, 1, 2] rfl⟩
        · have c_33 : (mDear M.2.1 i j) = true := bI_nz.mp c_33
          refine lv_iload_n hx hb dX6_nextDoor_36 rfl (lv_at hl 0 rfl) ?_
          refine lv_goto (tgt := 41) hx hb dX6_nextDoor_37 (by decide) ?_
          refine lv_istore_n (lv' := [(1, .int (nI (i))), (2, .int (nI (i))), (0, .ref (A 0))]) hx hb dX6_nextDoor_41 rfl hl (by decide) rfl (fun ls hl => ?_)
          refine lv_iinc (v := nI (i + 1)) (lv' := [(2, .int (nI (i + 1))), (1, .int (nI (i))), (0, .ref (A 0))]) hx hb dX6_nextDoor_42 hl (k := 1) rfl (nI_add _ _) (by decide) rfl (fun ls hl => ?_)
          refine lv_goto (tgt := 4) hx hb dX6_nextDoor_45 (by decide) ?_
          exact ih_4 (i + 1, some (i)) (by show (n - (i + 1)) < (n - i); omega) _ _ _ ⟨(show (i + 1) ≤ n from by omega), (show ∀ jj, (some (i)) = some jj → jj < (i + 1) from fun jj h => by first | (cases h; omega) | (have := hbj jj h; omega) | (have := hb0; cases h; omega)), (show (some (i)) = itr (i + 1) (ndStep M.2.1 M.2.2.2.2.2.2.1) none from by show _ = ndStep _ _ i (itr i _ _); rw [← he]; simp [ndStep, c_11, c_20, c_24, c_33]), hP, hD, hS, lv_sub hl [0, 1, 2] rfl⟩
abbrev rm_X6_nextMan : Room := { frames := 0, cells := 0, slots := 0, locals := 0 }
set_option maxHeartbeats 4000000 in
set_option maxRecDepth 100000 in
theorem c_X6_nextMan (l : Launch) (G : va_G) (cyI cyO : ClassId) (A : Nat → Nat) (M : MS) (n : Nat) (hM : MI M.2.1 n) : CI l G (TY cyI cyO) yX6_nextMan wsX6_nextMan rm_X6_nextMan [.ref (A 0)] [mdW cyI A M] (oI (nmAll M.2.2.2.2.2.2.2.1 M.2.2.2.2.2.2.2.2.1 M.2.2.2.2.2.2.2.2.2.1)) [mdW cyI A M] := by
  refine wk_I (cc := cX6_nextMan) (maxL := 3) (ret := (some .int)) (by decide) rfl (Nat.le_of_ble_eq_true rfl) ?_
  intro p9 e9 s9 m9 b9 t9 c9 A9 ls hx hb hr hts hown hlocks hml hK hA hD hP hl hS hnm
  have hl : lv_has ls 3 [(0, .ref (A 0))] := hl
  have hinX6 : ∀ w ∈ wsX60, w ∈ wsX6_nextMan := by decide +kernel
  have hf22 := hts (.fieldLink RX6 22 "DoorstepRoundsModel" "quota" "[I") (by decide +kernel)
  have hf25 := hts (.fieldLink RX6 25 "DoorstepRoundsModel" "given" "[I") (by decide +kernel)
  have hf28 := hts (.fieldLink RX6 28 "DoorstepRoundsModel" "pintsBy" "[I") (by decide +kernel)
  have hz : M.2.1 0 = nI n := hM.1
  have hn : n ≤ 20 := hM.2.1
  have hWk := hM.2.2.1
  have hOw := hM.2.2.2
  refine lv_iconst (v := (-1 : Int32)) hx hb dX6_nextMan_0 (by decide) ?_
  refine lv_istore_n (lv' := [(1, .int ((-1 : Int32))), (0, .ref (A 0))]) hx hb dX6_nextMan_1 rfl hl (by decide) rfl (fun ls hl => ?_)
  refine lv_iconst (v := (0 : Int32)) hx hb dX6_nextMan_2 (by decide) ?_
  refine lv_istore_n (lv' := [(2, .int ((0 : Int32))), (1, .int ((-1 : Int32))), (0, .ref (A 0))]) hx hb dX6_nextMan_3 rfl hl (by decide) rfl (fun ls hl => ?_)
  refine W_loop (α := Nat × (Option Nat)) (I := fun a9 H locs ls => (a9.1 ≤ 6) ∧ (∀ jj, a9.2 = some jj → jj < a9.1) ∧ (a9.2 = itr a9.1 (nmStep M.2.2.2.2.2.2.2.1 M.2.2.2.2.2.2.2.2.1 M.2.2.2.2.2.2.2.2.2.1) none) ∧ va_P G vwCl (cat [mdW cyI A M]) H ∧ va_D A9 (cat [mdW cyI A M]) ∧ va_S A9 s9.heap H locs ∧ lv_has ls 3 [(2, .int (nI (a9.1))), (1, .int (oI a9.2)), (0, .ref (A 0))]) (μ := fun a9 => 6 - a9.1) (st := fun a9 => []) ?_ (0, none) _ _ _ ⟨(show 0 ≤ 6 from by omega), (show ∀ jj, none = some jj → jj < 0 from fun jj h => by cases h), (show none = itr 0 (nmStep M.2.2.2.2.2.2.2.1 M.2.2.2.2.2.2.2.2.1 M.2.2.2.2.2.2.2.2.2.1) none from rfl), hP, hD, hS, lv_sub hl [0, 1, 2] rfl⟩
  intro a9 ih_4 H locs ls hI
  obtain ⟨i, b⟩ := a9
  obtain ⟨hi9, hbj9, he9, hP9, hD9, hS9, hl9⟩ := hI
  have hi : i ≤ 6 := hi9
  have hbj : ∀ jj, b = some jj → jj < i := hbj9
  have he : b = itr i (nmStep M.2.2.2.2.2.2.2.1 M.2.2.2.2.2.2.2.2.1 M.2.2.2.2.2.2.2.2.2.1) none := he9
  have hP : va_P G vwCl (cat [mdW cyI A M]) H := hP9
  have hD : va_D A9 (cat [mdW cyI A M]) := hD9
  have hS := hS9
  have hl : lv_has ls 3 [(2, .int (nI (i))), (1, .int (oI b)), (0, .ref (A 0))] := hl9
  clear hi9 hbj9 he9 hP9 hD9 hS9 hl9
  refine lv_iload_n hx hb dX6_nextMan_4 rfl (lv_at hl 0 rfl) ?_
  refine lv_bipush (v := (6 : Int32)) hx hb dX6_nextMan_5 (by decide) ?_
  refine lv_icmp_ge (tgt := 56) hx hb dX6_nextMan_7 (by decide) (fun c_7 => ?_) (fun c_7 => ?_)
  · have c_7 : (6) ≤ (i) := (nI_leI (a := 6) (b := i) (by omega) (by omega)).mp c_7
    obtain rfl : 6 = i := by omega
    refine lv_iload_n hx hb dX6_nextMan_56 rfl (lv_at hl 1 rfl) ?_
    have hP : va_P G vwCl (cat [mdW cyI A M]) H := hP
    have hD : va_D A9 (cat [mdW cyI A M]) := hD
    exact end_i hx hb hr hlocks hK hP hD hS (by rw [he]; rfl) dX6_nextMan_57
  · have c_7 : ¬ (6) ≤ (i) := fun h9 => c_7 ((nI_leI (a := 6) (b := i) (by omega) (by omega)).mpr h9)
    refine lv_aload_n hx hb dX6_nextMan_10 rfl (lv_at hl 2 rfl) ?_
    refine va_get (v := .ref (A 6)) (C := RX6) (T := TX6) (N := 12) hx hb hts hinX6 hown hK hP 0 rfl rfl 8 (by decide) hf25 (fun _ h9 => h9) rfl dX6_nextMan_11 ?_
    refine lv_iload_n hx hb dX6_nextMan_14 rfl (lv_at hl 0 rfl) ?_
    refine r_ild (k := i) (n := 6) (f := M.2.2.2.2.2.2.2.2.1) hx hb hK hP 6 0 rfl rfl (by omega) (by omega) rfl dX6_nextMan_15 ?_
    refine lv_aload_n hx hb dX6_nextMan_16 rfl (lv_at hl 2 rfl) ?_
    refine va_get (v := .ref (A 5)) (C := RX6) (T := TX6) (N := 12) hx hb hts hinX6 hown hK hP 0 rfl rfl 7 (by decide) hf22 (fun _ h9 => h9) rfl dX6_nextMan_17 ?_
    refine lv_iload_n hx hb dX6_nextMan_20 rfl (lv_at hl 0 rfl) ?_
    refine r_ild (k := i) (n := 6) (f := M.2.2.2.2.2.2.2.1) hx hb hK hP 5 0 rfl rfl (by omega) (by omega) rfl dX6_nextMan_21 ?_
    refine lv_icmp_ge (tgt := 48) hx hb dX6_nextMan_22 (by decide) (fun c_22 => ?_) (fun c_22 => ?_)
    · refine lv_iload_n hx hb dX6_nextMan_48 rfl (lv_at hl 1 rfl) ?_
      refine lv_istore_n (lv' := [(1, .int (oI b)), (2, .int (nI (i))), (0, .ref (A 0))]) hx hb dX6_nextMan_49 rfl hl (by decide) rfl (fun ls hl => ?_)
      refine lv_iinc (v := nI (i + 1)) (lv' := [(2, .int (nI (i + 1))), (1, .int (oI b)), (0, .ref (A 0))]) hx hb dX6_nextMan_50 hl (k := 1) rfl (nI_add _ _) (by decide) rfl (fun ls hl => ?_)
      refine lv_goto (tgt := 4) hx hb dX6_nextMan_53 (by decide) ?_
      exact ih_4 (i + 1, b) (by show (6 - (i + 1)) < (6 - i); omega) _ _ _ ⟨(show (i + 1) ≤ 6 from by omega), (show ∀ jj, b = some jj → jj < (i + 1) from fun jj h => by first | (cases h; omega) | (have := hbj jj h; omega) | (have := hb0; cases h; omega)), (show b = itr (i + 1) (nmStep M.2.2.2.2.2.2.2.1 M.2.2.2.2.2.2.2.2.1 M.2.2.2.2.2.2.2.2.2.1) none from by show _ = nmStep _ _ _ i (itr i _ _); rw [← he]; simp [nmStep, c_7, c_22]), hP, hD, hS, lv_sub hl [0, 1, 2] rfl⟩
    · refine lv_iload_n hx hb dX6_nextMan_25 rfl (lv_at hl 1 rfl) ?_
      refine lv_if_lt (tgt := 44) hx hb dX6_nextMan_26 (by decide) (fun c_26 => ?_) (fun c_26 => ?_)
      · obtain rfl : none = b := (oI_neg (fun j h => by have := hbj j h; omega) c_26).symm
        refine lv_iload_n hx hb dX6_nextMan_44 rfl (lv_at hl 0 rfl) ?_
        refine lv_goto (tgt := 49) hx hb dX6_nextMan_45 (by decide) ?_
        refine lv_istore_n (lv' := [(1, .int (nI (i))), (2, .int (nI (i))), (0, .ref (A 0))]) hx hb dX6_nextMan_49 rfl hl (by decide) rfl (fun ls hl => ?_)
        refine lv_iinc (v := nI (i + 1)) (lv' := [(2, .int (nI (i + 1))), (1, .int (nI (i))), (0, .ref (A 0))]) hx hb dX6_nextMan_50 hl (k := 1) rfl (nI_add _ _) (by decide) rfl (fun ls hl => ?_)
        refine lv_goto (tgt := 4) hx hb dX6_nextMan_53 (by decide) ?_
        exact ih_4 (i + 1, some (i)) (by show (6 - (i + 1)) < (6 - i); omega) _ _ _ ⟨(show (i + 1) ≤ 6 from by omega), (show ∀ jj, (some (i)) = some jj → jj < (i + 1) from fun jj h => by first | (cases h; omega) | (have := hbj jj h; omega) | (have := hb0; cases h; omega)), (show (some (i)) = itr (i + 1) (nmStep M.2.2.2.2.2.2.2.1 M.2.2.2.2.2.2.2.2.1 M.2.2.2.2.2.2.2.2.2.1) none from by show _ = nmStep _ _ _ i (itr i _ _); rw [← he]; simp [nmStep, c_7, c_22, c_26]), hP, hD, hS, lv_sub hl [0, 1, 2] rfl⟩
      · obtain ⟨j, rfl⟩ := oI_pos c_26
        have hb0 := hbj j rfl
        have hl : lv_has ls 3 [(2, .int (nI (i))), (1, .int (nI (j))), (0, .ref (A 0))] := hl
        refine lv_aload_n hx hb dX6_nextMan_29 rfl (lv_at hl 2 rfl) ?_
        refine va_get (v := .ref (A 7)) (C := RX6) (T := TX6) (N := 12) hx hb hts hinX6 hown hK hP 0 rfl rfl 9 (by decide) hf28 (fun _ h9 => h9) rfl dX6_nextMan_30 ?_
        refine lv_iload_n hx hb dX6_nextMan_33 rfl (lv_at hl 0 rfl) ?_
        refine r_ild (k := i) (n := 6) (f := M.2.2.2.2.2.2.2.2.2.1) hx hb hK hP 7 0 rfl rfl (by omega) (by omega) rfl dX6_nextMan_34 ?_
        refine lv_aload_n hx hb dX6_nextMan_35 rfl (lv_at hl 2 rfl) ?_
        refine va_get (v := .ref (A 7)) (C := RX6) (T := TX6) (N := 12) hx hb hts hinX6 hown hK hP 0 rfl rfl 9 (by decide) hf28 (fun _ h9 => h9) rfl dX6_nextMan_36 ?_
        refine lv_iload_n hx hb dX6_nextMan_39 rfl (lv_at hl 1 rfl) ?_
        refine r_ild (k := j) (n := 6) (f := M.2.2.2.2.2.2.2.2.2.1) hx hb hK hP 7 0 rfl rfl (by omega) (by omega) rfl dX6_nextMan_40 ?_
        refine lv_icmp_ge (tgt := 48) hx hb dX6_nextMan_41 (by decide) (fun c_41 => ?_) (fun c_41 => ?_)
        · refine lv_iload_n hx hb dX6_nextMan_48 rfl (lv_at hl 1 rfl) ?_
          refine lv_istore_n (lv' := [(1, .int (nI (j))), (2, .int (nI (i))), (0, .ref (A 0))]) hx hb dX6_nextMan_49 rfl hl (by decide) rfl (fun ls hl => ?_)
          refine lv_iinc (v := nI (i + 1)) (lv' := [(2, .int (nI (i + 1))), (1, .int (nI (j))), (0, .ref (A 0))]) hx hb dX6_nextMan_50 hl (k := 1) rfl (nI_add _ _) (by decide) rfl (fun ls hl => ?_)
          refine lv_goto (tgt := 4) hx hb dX6_nextMan_53 (by decide) ?_
          exact ih_4 (i + 1, some (j)) (by show (6 - (i + 1)) < (6 - i); omega) _ _ _ ⟨(show (i + 1) ≤ 6 from by omega), (show ∀ jj, (some (j)) = some jj → jj < (i + 1) from fun jj h => by first | (cases h; omega) | (have := hbj jj h; omega) | (have := hb0; cases h; omega)), (show (some (j)) = itr (i + 1) (nmStep M.2.2.2.2.2.2.2.1 M.2.2.2.2.2.2.2.2.1 M.2.2.2.2.2.2.2.2.2.1) none from by show _ = nmStep _ _ _ i (itr i _ _); rw [← he]; simp [nmStep, c_7, c_22, c_26, c_41]), hP, hD, hS, lv_sub hl [0, 1, 2] rfl⟩
        · refine lv_iload_n hx hb dX6_nextMan_44 rfl (lv_at hl 0 rfl) ?_
          refine lv_goto (tgt := 49) hx hb dX6_nextMan_45 (by decide) ?_
          refine lv_istore_n (lv' := [(1, .int (nI (i))), (2, .int (nI (i))), (0, .ref (A 0))]) hx hb dX6_nextMan_49 rfl hl (by decide) rfl (fun ls hl => ?_)
          refine lv_iinc (v := nI (i + 1)) (lv' := [(2, .int (nI (i + 1))), (1, .int (nI (i))), (0, .ref (A 0))]) hx hb dX6_nextMan_50 hl (k := 1) rfl (nI_add _ _) (by decide) rfl (fun ls hl => ?_)
          refine lv_goto (tgt := 4) hx hb dX6_nextMan_53 (by decide) ?_
          exact ih_4 (i + 1, some (i)) (by show (6 - (i + 1)) < (6 - i); omega) _ _ _ ⟨(show (i + 1) ≤ 6 from by omega), (show ∀ jj, (some (i)) = some jj → jj < (i + 1) from fun jj h => by first | (cases h; omega) | (have := hbj jj h; omega) | (have := hb0; cases h; omega)), (show (some (i)) = itr (i + 1) (nmStep M.2.2.2.2.2.2.2.1 M.2.2.2.2.2.2.2.2.1 M.2.2.2.2.2.2.2.2.2.1) none from by show _ = nmStep _ _ _ i (itr i _ _); rw [← he]; simp [nmStep, c_7, c_22, c_26, c_41]), hP, hD, hS, lv_sub hl [0, 1, 2] rfl⟩
abbrev rm_X6_record : Room := { frames := 0, cells := 0, slots := 0, locals := 0 }
set_option maxHeartbeats 4000000 in
set_option maxRecDepth 100000 in
theorem c_X6_record (l : Launch) (G : va_G) (cyI cyO : ClassId) (A : Nat → Nat) (M : MS) (hs : M.2.2.2.1 ≤ 6) : CV l G (TY cyI cyO) yX6_record wsX6_record rm_X6_record [.ref (A 0)] [mdW cyI A M] [mdW cyI A ((M.1, M.2.1, (recA M.2.1 M.2.2.1 M.2.2.2.1).1, (recA M.2.1 M.2.2.1 M.2.2.2.1).2, M.2.2.2.2.1, M.2.2.2.2.2.1, M.2.2.2.2.2.2.1, M.2.2.2.2.2.2.2.1, M.2.2.2.2.2.2.2.2.1, M.2.2.2.2.2.2.2.2.2.1, M.2.2.2.2.2.2.2.2.2.2.1, M.2.2.2.2.2.2.2.2.2.2.2))] := by
  refine wk_V (cc := cX6_record) (maxL := 2) (ret := none) (by decide) rfl (Nat.le_of_ble_eq_true rfl) ?_
  intro p9 e9 s9 m9 b9 t9 c9 A9 ls hx hb hr hts hown hlocks hml hK hA hD hP hl hS hnm
  have hl : lv_has ls 2 [(0, .ref (A 0))] := hl
  have hinX6 : ∀ w ∈ wsX60, w ∈ wsX6_record := by decide +kernel
  have hf13 := hts (.fieldLink RX6 13 "DoorstepRoundsModel" "saved" "[I") (by decide +kernel)
  have hf39 := hts (.fieldLink RX6 39 "DoorstepRoundsModel" "saves" "I") (by decide +kernel)
  have hf7 := hts (.fieldLink RX6 7 "DoorstepRoundsModel" "z" "[I") (by decide +kernel)
  have hP : va_P G vwCl (cat [[(A 0, .inr (6, [.int (M.1), .ref (A 1), .ref (A 2), .int (nI (M.2.2.2.1)), .ref (A 3), .int (nI (M.2.2.2.2.2.1)), .ref (A 4), .ref (A 5), .ref (A 6), .ref (A 7), .int (M.2.2.2.2.2.2.2.2.2.2.1), .int (M.2.2.2.2.2.2.2.2.2.2.2)]))], [(A 1, .inl (cyI, 91, .inl (M.2.1)))], [(A 2, .inl (cyI, 546, .inl (M.2.2.1)))], [(A 3, .inl (cyI, 60, .inl (M.2.2.2.2.1)))], [(A 4, .inl (cyI, 20, .inl (M.2.2.2.2.2.2.1)))], [(A 5, .inl (cyI, 6, .inl (M.2.2.2.2.2.2.2.1)))], [(A 6, .inl (cyI, 6, .inl (M.2.2.2.2.2.2.2.2.1)))], [(A 7, .inl (cyI, 6, .inl (M.2.2.2.2.2.2.2.2.2.1)))]]) s9.heap := hP
  have hD : va_D A9 (cat [[(A 0, .inr (6, [.int (M.1), .ref (A 1), .ref (A 2), .int (nI (M.2.2.2.1)), .ref (A 3), .int (nI (M.2.2.2.2.2.1)), .ref (A 4), .ref (A 5), .ref (A 6), .ref (A 7), .int (M.2.2.2.2.2.2.2.2.2.2.1), .int (M.2.2.2.2.2.2.2.2.2.2.2)]))], [(A 1, .inl (cyI, 91, .inl (M.2.1)))], [(A 2, .inl (cyI, 546, .inl (M.2.2.1)))], [(A 3, .inl (cyI, 60, .inl (M.2.2.2.2.1)))], [(A 4, .inl (cyI, 20, .inl (M.2.2.2.2.2.2.1)))], [(A 5, .inl (cyI, 6, .inl (M.2.2.2.2.2.2.2.1)))], [(A 6, .inl (cyI, 6, .inl (M.2.2.2.2.2.2.2.2.1)))], [(A 7, .inl (cyI, 6, .inl (M.2.2.2.2.2.2.2.2.2.1)))]]) := hD
  refine lv_aload_n hx hb dX6_record_0 rfl (lv_at hl 0 rfl) ?_
  refine va_get (v := .int (nI (M.2.2.2.1))) (C := RX6) (T := TX6) (N := 12) hx hb hts hinX6 hown hK hP 0 rfl rfl 3 (by decide) hf39 (fun _ h9 => h9) rfl dX6_record_1 ?_
  refine lv_bipush (v := (6 : Int32)) hx hb dX6_record_4 (by decide) ?_
  refine lv_icmp_ne (tgt := 49) hx hb dX6_record_6 (by decide) (fun c_6 => ?_) (fun c_6 => ?_)
  · have c_6 : ¬ (M.2.2.2.1) = (6) := fun h9 => c_6 ((nI_eq (a := M.2.2.2.1) (b := 6) (by omega) (by omega)).mpr h9)
    refine lv_iconst (v := (0 : Int32)) hx hb dX6_record_49 (by decide) ?_
    refine lv_istore_n (lv' := [(1, .int ((0 : Int32))), (0, .ref (A 0))]) hx hb dX6_record_50 rfl hl (by decide) rfl (fun ls hl => ?_)
    refine W_loop (α := Nat × (Nat → Int32)) (I := fun a9 H locs ls => (a9.1 ≤ 91) ∧ (a9.2 = itr a9.1 (fun k g => upd g (91 * M.2.2.2.1 + k) (M.2.1 k)) M.2.2.1) ∧ va_P G vwCl (cat [[(A 0, .inr (6, [.int (M.1), .ref (A 1), .ref (A 2), .int (nI (M.2.2.2.1)), .ref (A 3), .int (nI (M.2.2.2.2.2.1)), .ref (A 4), .ref (A 5), .ref (A 6), .ref (A 7), .int (M.2.2.2.2.2.2.2.2.2.2.1), .int (M.2.2.2.2.2.2.2.2.2.2.2)]))], [(A 1, .inl (cyI, 91, .inl (M.2.1)))], [(A 2, .inl (cyI, 546, .inl (a9.2)))], [(A 3, .inl (cyI, 60, .inl (M.2.2.2.2.1)))], [(A 4, .inl (cyI, 20, .inl (M.2.2.2.2.2.2.1)))], [(A 5, .inl (cyI, 6, .inl (M.2.2.2.2.2.2.2.1)))], [(A 6, .inl (cyI, 6, .inl (M.2.2.2.2.2.2.2.2.1)))], [(A 7, .inl (cyI, 6, .inl (M.2.2.2.2.2.2.2.2.2.1)))]]) H ∧ va_D A9 (cat [[(A 0, .inr (6, [.int (M.1), .ref (A 1), .ref (A 2), .int (nI (M.2.2.2.1)), .ref (A 3), .int (nI (M.2.2.2.2.2.1)), .ref (A 4), .ref (A 5), .ref (A 6), .ref (A 7), .int (M.2.2.2.2.2.2.2.2.2.2.1), .int (M.2.2.2.2.2.2.2.2.2.2.2)]))], [(A 1, .inl (cyI, 91, .inl (M.2.1)))], [(A 2, .inl (cyI, 546, .inl (a9.2)))], [(A 3, .inl (cyI, 60, .inl (M.2.2.2.2.1)))], [(A 4, .inl (cyI, 20, .inl (M.2.2.2.2.2.2.1)))], [(A 5, .inl (cyI, 6, .inl (M.2.2.2.2.2.2.2.1)))], [(A 6, .inl (cyI, 6, .inl (M.2.2.2.2.2.2.2.2.1)))], [(A 7, .inl (cyI, 6, .inl (M.2.2.2.2.2.2.2.2.2.1)))]]) ∧ va_S A9 s9.heap H locs ∧ lv_has ls 2 [(1, .int (nI (a9.1))), (0, .ref (A 0))]) (μ := fun a9 => 91 - a9.1) (st := fun a9 => []) ?_ (0, M.2.2.1) _ _ _ ⟨(show 0 ≤ 91 from by omega), (show M.2.2.1 = itr 0 (fun k g => upd g (91 * M.2.2.2.1 + k) (M.2.1 k)) M.2.2.1 from rfl), hP, hD, hS, lv_sub hl [0, 1] rfl⟩
    intro a9 ih_51 H locs ls hI
    obtain ⟨j, f2⟩ := a9
    obtain ⟨hj9, he9, hP9, hD9, hS9, hl9⟩ := hI
    have hj : j ≤ 91 := hj9
    have he : f2 = itr j (fun k g => upd g (91 * M.2.2.2.1 + k) (M.2.1 k)) M.2.2.1 := he9
    have hP : va_P G vwCl (cat [[(A 0, .inr (6, [.int (M.1), .ref (A 1), .ref (A 2), .int (nI (M.2.2.2.1)), .ref (A 3), .int (nI (M.2.2.2.2.2.1)), .ref (A 4), .ref (A 5), .ref (A 6), .ref (A 7), .int (M.2.2.2.2.2.2.2.2.2.2.1), .int (M.2.2.2.2.2.2.2.2.2.2.2)]))], [(A 1, .inl (cyI, 91, .inl (M.2.1)))], [(A 2, .inl (cyI, 546, .inl (f2)))], [(A 3, .inl (cyI, 60, .inl (M.2.2.2.2.1)))], [(A 4, .inl (cyI, 20, .inl (M.2.2.2.2.2.2.1)))], [(A 5, .inl (cyI, 6, .inl (M.2.2.2.2.2.2.2.1)))], [(A 6, .inl (cyI, 6, .inl (M.2.2.2.2.2.2.2.2.1)))], [(A 7, .inl (cyI, 6, .inl (M.2.2.2.2.2.2.2.2.2.1)))]]) H := hP9
    have hD : va_D A9 (cat [[(A 0, .inr (6, [.int (M.1), .ref (A 1), .ref (A 2), .int (nI (M.2.2.2.1)), .ref (A 3), .int (nI (M.2.2.2.2.2.1)), .ref (A 4), .ref (A 5), .ref (A 6), .ref (A 7), .int (M.2.2.2.2.2.2.2.2.2.2.1), .int (M.2.2.2.2.2.2.2.2.2.2.2)]))], [(A 1, .inl (cyI, 91, .inl (M.2.1)))], [(A 2, .inl (cyI, 546, .inl (f2)))], [(A 3, .inl (cyI, 60, .inl (M.2.2.2.2.1)))], [(A 4, .inl (cyI, 20, .inl (M.2.2.2.2.2.2.1)))], [(A 5, .inl (cyI, 6, .inl (M.2.2.2.2.2.2.2.1)))], [(A 6, .inl (cyI, 6, .inl (M.2.2.2.2.2.2.2.2.1)))], [(A 7, .inl (cyI, 6, .inl (M.2.2.2.2.2.2.2.2.2.1)))]]) := hD9
    have hS := hS9
    have hl : lv_has ls 2 [(1, .int (nI (j))), (0, .ref (A 0))] := hl9
    clear hj9 he9 hP9 hD9 hS9 hl9
    refine lv_iload_n hx hb dX6_record_51 rfl (lv_at hl 0 rfl) ?_
    refine lv_bipush (v := (91 : Int32)) hx hb dX6_record_52 (by decide) ?_
    refine lv_icmp_ge (tgt := 83) hx hb dX6_record_54 (by decide) (fun c_54 => ?_) (fun c_54 => ?_)
    · have c_54 : (91) ≤ (j) := (nI_leI (a := 91) (b := j) (by omega) (by omega)).mp c_54
      obtain rfl : 91 = j := by omega
      refine lv_aload_n hx hb dX6_record_83 rfl (lv_at hl 1 rfl) ?_
      refine lv_dup hx hb dX6_record_84 rfl ?_
      refine va_get (v := .int (nI (M.2.2.2.1))) (C := RX6) (T := TX6) (N := 12) hx hb hts hinX6 hown hK hP 0 rfl rfl 3 (by decide) hf39 (fun _ h9 => h9) rfl dX6_record_85 ?_
      refine lv_iconst (v := (1 : Int32)) hx hb dX6_record_88 (by decide) ?_
      refine lv_iadd hx hb dX6_record_89 ?_
      refine top_i (x' := nI (M.2.2.2.1 + 1)) (nI_add (M.2.2.2.1) (1)) ?_
      refine va_put (v := .int (nI (M.2.2.2.1 + 1))) (ty := .int) (C := RX6) (T := TX6) (N := 12) hx hb hts hinX6 tyX6 tyX6_ok nmX6 hown hK hP hD hS 0 rfl rfl 3 (by decide) hf39 (fun _ h9 => h9) rfl (by first | rfl | decide +kernel) rfl rfl (Nat.le_of_ble_eq_true rfl) dX6_record_90 (fun H locs hP hD hS => ?_)
      have hP : va_P G vwCl (cat [[(A 0, .inr (6, [.int (M.1), .ref (A 1), .ref (A 2), .int (nI (M.2.2.2.1 + 1)), .ref (A 3), .int (nI (M.2.2.2.2.2.1)), .ref (A 4), .ref (A 5), .ref (A 6), .ref (A 7), .int (M.2.2.2.2.2.2.2.2.2.2.1), .int (M.2.2.2.2.2.2.2.2.2.2.2)]))], [(A 1, .inl (cyI, 91, .inl (M.2.1)))], [(A 2, .inl (cyI, 546, .inl (f2)))], [(A 3, .inl (cyI, 60, .inl (M.2.2.2.2.1)))], [(A 4, .inl (cyI, 20, .inl (M.2.2.2.2.2.2.1)))], [(A 5, .inl (cyI, 6, .inl (M.2.2.2.2.2.2.2.1)))], [(A 6, .inl (cyI, 6, .inl (M.2.2.2.2.2.2.2.2.1)))], [(A 7, .inl (cyI, 6, .inl (M.2.2.2.2.2.2.2.2.2.1)))]]) H := hP
      have hD : va_D A9 (cat [[(A 0, .inr (6, [.int (M.1), .ref (A 1), .ref (A 2), .int (nI (M.2.2.2.1 + 1)), .ref (A 3), .int (nI (M.2.2.2.2.2.1)), .ref (A 4), .ref (A 5), .ref (A 6), .ref (A 7), .int (M.2.2.2.2.2.2.2.2.2.2.1), .int (M.2.2.2.2.2.2.2.2.2.2.2)]))], [(A 1, .inl (cyI, 91, .inl (M.2.1)))], [(A 2, .inl (cyI, 546, .inl (f2)))], [(A 3, .inl (cyI, 60, .inl (M.2.2.2.2.1)))], [(A 4, .inl (cyI, 20, .inl (M.2.2.2.2.2.2.1)))], [(A 5, .inl (cyI, 6, .inl (M.2.2.2.2.2.2.2.1)))], [(A 6, .inl (cyI, 6, .inl (M.2.2.2.2.2.2.2.2.1)))], [(A 7, .inl (cyI, 6, .inl (M.2.2.2.2.2.2.2.2.2.1)))]]) := hD
      have hgo : cat [[(A 0, .inr (6, [.int (M.1), .ref (A 1), .ref (A 2), .int (nI (M.2.2.2.1 + 1)), .ref (A 3), .int (nI (M.2.2.2.2.2.1)), .ref (A 4), .ref (A 5), .ref (A 6), .ref (A 7), .int (M.2.2.2.2.2.2.2.2.2.2.1), .int (M.2.2.2.2.2.2.2.2.2.2.2)]))], [(A 1, .inl (cyI, 91, .inl (M.2.1)))], [(A 2, .inl (cyI, 546, .inl (f2)))], [(A 3, .inl (cyI, 60, .inl (M.2.2.2.2.1)))], [(A 4, .inl (cyI, 20, .inl (M.2.2.2.2.2.2.1)))], [(A 5, .inl (cyI, 6, .inl (M.2.2.2.2.2.2.2.1)))], [(A 6, .inl (cyI, 6, .inl (M.2.2.2.2.2.2.2.2.1)))], [(A 7, .inl (cyI, 6, .inl (M.2.2.2.2.2.2.2.2.2.1)))]] = cat [mdW cyI A ((M.1, M.2.1, (recA M.2.1 M.2.2.1 M.2.2.2.1).1, (recA M.2.1 M.2.2.1 M.2.2.2.1).2, M.2.2.2.2.1, M.2.2.2.2.2.1, M.2.2.2.2.2.2.1, M.2.2.2.2.2.2.2.1, M.2.2.2.2.2.2.2.2.1, M.2.2.2.2.2.2.2.2.2.1, M.2.2.2.2.2.2.2.2.2.2.1, M.2.2.2.2.2.2.2.2.2.2.2))] := by first | (rw [show recA M.2.1 M.2.2.1 M.2.2.2.1 = (f2, 5 + 1) from by unfold recA; rw [if_pos c_6, he]]; rfl) | (rw [show recA M.2.1 M.2.2.1 M.2.2.2.1 = (f2, M.2.2.2.1 + 1) from by unfold recA; rw [if_neg c_6, he]]; rfl)
      rw [hgo] at hP hD
      have hP : va_P G vwCl (cat [mdW cyI A ((M.1, M.2.1, (recA M.2.1 M.2.2.1 M.2.2.2.1).1, (recA M.2.1 M.2.2.1 M.2.2.2.1).2, M.2.2.2.2.1, M.2.2.2.2.2.1, M.2.2.2.2.2.2.1, M.2.2.2.2.2.2.2.1, M.2.2.2.2.2.2.2.2.1, M.2.2.2.2.2.2.2.2.2.1, M.2.2.2.2.2.2.2.2.2.2.1, M.2.2.2.2.2.2.2.2.2.2.2))]) H := hP
      have hD : va_D A9 (cat [mdW cyI A ((M.1, M.2.1, (recA M.2.1 M.2.2.1 M.2.2.2.1).1, (recA M.2.1 M.2.2.1 M.2.2.2.1).2, M.2.2.2.2.1, M.2.2.2.2.2.1, M.2.2.2.2.2.2.1, M.2.2.2.2.2.2.2.1, M.2.2.2.2.2.2.2.2.1, M.2.2.2.2.2.2.2.2.2.1, M.2.2.2.2.2.2.2.2.2.2.1, M.2.2.2.2.2.2.2.2.2.2.2))]) := hD
      exact end_v hx hb hr hlocks hK hP hD hS dX6_record_93
    · have c_54 : ¬ (91) ≤ (j) := fun h9 => c_54 ((nI_leI (a := 91) (b := j) (by omega) (by omega)).mpr h9)
      refine lv_aload_n hx hb dX6_record_57 rfl (lv_at hl 1 rfl) ?_
      refine va_get (v := .ref (A 2)) (C := RX6) (T := TX6) (N := 12) hx hb hts hinX6 hown hK hP 0 rfl rfl 2 (by decide) hf13 (fun _ h9 => h9) rfl dX6_record_58 ?_
      refine lv_bipush (v := (91 : Int32)) hx hb dX6_record_61 (by decide) ?_
      refine lv_aload_n hx hb dX6_record_63 rfl (lv_at hl 1 rfl) ?_
      refine va_get (v := .int (nI (M.2.2.2.1))) (C := RX6) (T := TX6) (N := 12) hx hb hts hinX6 hown hK hP 0 rfl rfl 3 (by decide) hf39 (fun _ h9 => h9) rfl dX6_record_64 ?_
      refine lv_imul hx hb dX6_record_67 ?_
      refine top_i (x' := nI (91 * M.2.2.2.1)) (pk_mul (91) (M.2.2.2.1)) ?_
      refine lv_iload_n hx hb dX6_record_68 rfl (lv_at hl 0 rfl) ?_
      refine lv_iadd hx hb dX6_record_69 ?_
      refine top_i (x' := nI ((91 * M.2.2.2.1) + j)) (nI_add (91 * M.2.2.2.1) (j)) ?_
      refine lv_aload_n hx hb dX6_record_70 rfl (lv_at hl 1 rfl) ?_
      refine va_get (v := .ref (A 1)) (C := RX6) (T := TX6) (N := 12) hx hb hts hinX6 hown hK hP 0 rfl rfl 1 (by decide) hf7 (fun _ h9 => h9) rfl dX6_record_71 ?_
      refine lv_iload_n hx hb dX6_record_74 rfl (lv_at hl 0 rfl) ?_
      refine r_ild (k := j) (n := 91) (f := M.2.1) hx hb hK hP 1 0 rfl rfl (by omega) (by omega) rfl dX6_record_75 ?_
      refine r_ist (k := (91 * M.2.2.2.1) + j) (n := 546) (f := f2) hx hb hK hP hD hS 2 0 rfl rfl (by omega) (by omega) rfl dX6_record_76 (fun H locs hP hD hS => ?_)
      have hP : va_P G vwCl (cat [[(A 0, .inr (6, [.int (M.1), .ref (A 1), .ref (A 2), .int (nI (M.2.2.2.1)), .ref (A 3), .int (nI (M.2.2.2.2.2.1)), .ref (A 4), .ref (A 5), .ref (A 6), .ref (A 7), .int (M.2.2.2.2.2.2.2.2.2.2.1), .int (M.2.2.2.2.2.2.2.2.2.2.2)]))], [(A 1, .inl (cyI, 91, .inl (M.2.1)))], [(A 2, .inl (cyI, 546, .inl (upd f2 ((91 * M.2.2.2.1) + j) (M.2.1 j))))], [(A 3, .inl (cyI, 60, .inl (M.2.2.2.2.1)))], [(A 4, .inl (cyI, 20, .inl (M.2.2.2.2.2.2.1)))], [(A 5, .inl (cyI, 6, .inl (M.2.2.2.2.2.2.2.1)))], [(A 6, .inl (cyI, 6, .inl (M.2.2.2.2.2.2.2.2.1)))], [(A 7, .inl (cyI, 6, .inl (M.2.2.2.2.2.2.2.2.2.1)))]]) H := hP
      have hD : va_D A9 (cat [[(A 0, .inr (6, [.int (M.1), .ref (A 1), .ref (A 2), .int (nI (M.2.2.2.1)), .ref (A 3), .int (nI (M.2.2.2.2.2.1)), .ref (A 4), .ref (A 5), .ref (A 6), .ref (A 7), .int (M.2.2.2.2.2.2.2.2.2.2.1), .int (M.2.2.2.2.2.2.2.2.2.2.2)]))], [(A 1, .inl (cyI, 91, .inl (M.2.1)))], [(A 2, .inl (cyI, 546, .inl (upd f2 ((91 * M.2.2.2.1) + j) (M.2.1 j))))], [(A 3, .inl (cyI, 60, .inl (M.2.2.2.2.1)))], [(A 4, .inl (cyI, 20, .inl (M.2.2.2.2.2.2.1)))], [(A 5, .inl (cyI, 6, .inl (M.2.2.2.2.2.2.2.1)))], [(A 6, .inl (cyI, 6, .inl (M.2.2.2.2.2.2.2.2.1)))], [(A 7, .inl (cyI, 6, .inl (M.2.2.2.2.2.2.2.2.2.1)))]]) := hD
      refine lv_iinc (v := nI (j + 1)) (lv' := [(1, .int (nI (j + 1))), (0, .ref (A 0))]) hx hb dX6_record_77 hl (k := 0) rfl (nI_add _ _) (by decide) rfl (fun ls hl => ?_)
      refine lv_goto (tgt := 51) hx hb dX6_record_80 (by decide) ?_
      exact ih_51 (j + 1, upd f2 ((91 * M.2.2.2.1) + j) (M.2.1 j)) (by show (91 - (j + 1)) < (91 - j); omega) _ _ _ ⟨(show (j + 1) ≤ 91 from by omega), (show (upd f2 ((91 * M.2.2.2.1) + j) (M.2.1 j)) = itr (j + 1) (fun k g => upd g (91 * M.2.2.2.1 + k) (M.2.1 k)) M.2.2.1 from by rw [he]; rfl), hP, hD, hS, lv_sub hl [0, 1] rfl⟩
  · have c_6 : (M.2.2.2.1) = (6) := (nI_eq (a := M.2.2.2.1) (b := 6) (by omega) (by omega)).mp c_6
    refine lv_iconst (v := (0 : Int32)) hx hb dX6_record_9 (by decide) ?_
    refine lv_istore_n (lv' := [(1, .int ((0 : Int32))), (0, .ref (A 0))]) hx hb dX6_record_10 rfl hl (by decide) rfl (fun ls hl => ?_)
    refine W_loop (α := Nat) (I := fun a9 H locs ls => (a9 ≤ 455) ∧ va_P G vwCl (cat [[(A 0, .inr (6, [.int (M.1), .ref (A 1), .ref (A 2), .int (nI (M.2.2.2.1)), .ref (A 3), .int (nI (M.2.2.2.2.2.1)), .ref (A 4), .ref (A 5), .ref (A 6), .ref (A 7), .int (M.2.2.2.2.2.2.2.2.2.2.1), .int (M.2.2.2.2.2.2.2.2.2.2.2)]))], [(A 1, .inl (cyI, 91, .inl (M.2.1)))], [(A 2, .inl (cyI, 546, .inl (itr a9 (fun k g => upd g k (g (91 + k))) M.2.2.1)))], [(A 3, .inl (cyI, 60, .inl (M.2.2.2.2.1)))], [(A 4, .inl (cyI, 20, .inl (M.2.2.2.2.2.2.1)))], [(A 5, .inl (cyI, 6, .inl (M.2.2.2.2.2.2.2.1)))], [(A 6, .inl (cyI, 6, .inl (M.2.2.2.2.2.2.2.2.1)))], [(A 7, .inl (cyI, 6, .inl (M.2.2.2.2.2.2.2.2.2.1)))]]) H ∧ va_D A9 (cat [[(A 0, .inr (6, [.int (M.1), .ref (A 1), .ref (A 2), .int (nI (M.2.2.2.1)), .ref (A 3), .int (nI (M.2.2.2.2.2.1)), .ref (A 4), .ref (A 5), .ref (A 6), .ref (A 7), .int (M.2.2.2.2.2.2.2.2.2.2.1), .int (M.2.2.2.2.2.2.2.2.2.2.2)]))], [(A 1, .inl (cyI, 91, .inl (M.2.1)))], [(A 2, .inl (cyI, 546, .inl (itr a9 (fun k g => upd g k (g (91 + k))) M.2.2.1)))], [(A 3, .inl (cyI, 60, .inl (M.2.2.2.2.1)))], [(A 4, .inl (cyI, 20, .inl (M.2.2.2.2.2.2.1)))], [(A 5, .inl (cyI, 6, .inl (M.2.2.2.2.2.2.2.1)))], [(A 6, .inl (cyI, 6, .inl (M.2.2.2.2.2.2.2.2.1)))], [(A 7, .inl (cyI, 6, .inl (M.2.2.2.2.2.2.2.2.2.1)))]]) ∧ va_S A9 s9.heap H locs ∧ lv_has ls 2 [(1, .int (nI (a9))), (0, .ref (A 0))]) (μ := fun a9 => 455 - a9) (st := fun a9 => []) ?_ (0) _ _ _ ⟨(show 0 ≤ 455 from by omega), hP, hD, hS, lv_sub hl [0, 1] rfl⟩
    intro a9 ih_11 H locs ls hI
    obtain ⟨i, ea9⟩ : ∃ z, z = a9 := ⟨_, rfl⟩
    subst ea9
    obtain ⟨hi9, hP9, hD9, hS9, hl9⟩ := hI
    have hi : i ≤ 455 := hi9
    have hP : va_P G vwCl (cat [[(A 0, .inr (6, [.int (M.1), .ref (A 1), .ref (A 2), .int (nI (M.2.2.2.1)), .ref (A 3), .int (nI (M.2.2.2.2.2.1)), .ref (A 4), .ref (A 5), .ref (A 6), .ref (A 7), .int (M.2.2.2.2.2.2.2.2.2.2.1), .int (M.2.2.2.2.2.2.2.2.2.2.2)]))], [(A 1, .inl (cyI, 91, .inl (M.2.1)))], [(A 2, .inl (cyI, 546, .inl (itr i (fun k g => upd g k (g (91 + k))) M.2.2.1)))], [(A 3, .inl (cyI, 60, .inl (M.2.2.2.2.1)))], [(A 4, .inl (cyI, 20, .inl (M.2.2.2.2.2.2.1)))], [(A 5, .inl (cyI, 6, .inl (M.2.2.2.2.2.2.2.1)))], [(A 6, .inl (cyI, 6, .inl (M.2.2.2.2.2.2.2.2.1)))], [(A 7, .inl (cyI, 6, .inl (M.2.2.2.2.2.2.2.2.2.1)))]]) H := hP9
    have hD : va_D A9 (cat [[(A 0, .inr (6, [.int (M.1), .ref (A 1), .ref (A 2), .int (nI (M.2.2.2.1)), .ref (A 3), .int (nI (M.2.2.2.2.2.1)), .ref (A 4), .ref (A 5), .ref (A 6), .ref (A 7), .int (M.2.2.2.2.2.2.2.2.2.2.1), .int (M.2.2.2.2.2.2.2.2.2.2.2)]))], [(A 1, .inl (cyI, 91, .inl (M.2.1)))], [(A 2, .inl (cyI, 546, .inl (itr i (fun k g => upd g k (g (91 + k))) M.2.2.1)))], [(A 3, .inl (cyI, 60, .inl (M.2.2.2.2.1)))], [(A 4, .inl (cyI, 20, .inl (M.2.2.2.2.2.2.1)))], [(A 5, .inl (cyI, 6, .inl (M.2.2.2.2.2.2.2.1)))], [(A 6, .inl (cyI, 6, .inl (M.2.2.2.2.2.2.2.2.1)))], [(A 7, .inl (cyI, 6, .inl (M.2.2.2.2.2.2.2.2.2.1)))]]) := hD9
    have hS := hS9
    have hl : lv_has ls 2 [(1, .int (nI (i))), (0, .ref (A 0))] := hl9
    clear hi9 hP9 hD9 hS9 hl9
    refine lv_iload_n hx hb dX6_record_11 rfl (lv_at hl 0 rfl) ?_
    refine lv_sipush (v := (455 : Int32)) hx hb dX6_record_12 (by decide) ?_
    refine lv_icmp_ge (tgt := 39) hx hb dX6_record_15 (by decide) (fun c_15 => ?_) (fun c_15 => ?_)
    · have c_15 : (455) ≤ (i) := (nI_leI (a := 455) (b := i) (by omega) (by omega)).mp c_15
      obtain rfl : 455 = i := by omega
      refine lv_aload_n hx hb dX6_record_39 rfl (lv_at hl 1 rfl) ?_
      refine lv_dup hx hb dX6_record_40 rfl ?_
      refine va_get (v := .int (nI (M.2.2.2.1))) (C := RX6) (T := TX6) (N := 12) hx hb hts hinX6 hown hK hP 0 rfl rfl 3 (by decide) hf39 (fun _ h9 => h9) rfl dX6_record_41 ?_
      refine lv_iconst (v := (1 : Int32)) hx hb dX6_record_44 (by decide) ?_
      refine lv_isub hx hb dX6_record_45 ?_
      refine top_i (x' := nI (5)) (by rw [c_6]; rfl) ?_
      refine va_put (v := .int (nI (5))) (ty := .int) (C := RX6) (T := TX6) (N := 12) hx hb hts hinX6 tyX6 tyX6_ok nmX6 hown hK hP hD hS 0 rfl rfl 3 (by decide) hf39 (fun _ h9 => h9) rfl (by first | rfl | decide +kernel) rfl rfl (Nat.le_of_ble_eq_true rfl) dX6_record_46 (fun H locs hP hD hS => ?_)
      have hP : va_P G vwCl (cat [[(A 0, .inr (6, [.int (M.1), .ref (A 1), .ref (A 2), .int (nI (5)), .ref (A 3), .int (nI (M.2.2.2.2.2.1)), .ref (A 4), .ref (A 5), .ref (A 6), .ref (A 7), .int (M.2.2.2.2.2.2.2.2.2.2.1), .int (M.2.2.2.2.2.2.2.2.2.2.2)]))], [(A 1, .inl (cyI, 91, .inl (M.2.1)))], [(A 2, .inl (cyI, 546, .inl (itr 455 (fun k g => upd g k (g (91 + k))) M.2.2.1)))], [(A 3, .inl (cyI, 60, .inl (M.2.2.2.2.1)))], [(A 4, .inl (cyI, 20, .inl (M.2.2.2.2.2.2.1)))], [(A 5, .inl (cyI, 6, .inl (M.2.2.2.2.2.2.2.1)))], [(A 6, .inl (cyI, 6, .inl (M.2.2.2.2.2.2.2.2.1)))], [(A 7, .inl (cyI, 6, .inl (M.2.2.2.2.2.2.2.2.2.1)))]]) H := hP
      have hD : va_D A9 (cat [[(A 0, .inr (6, [.int (M.1), .ref (A 1), .ref (A 2), .int (nI (5)), .ref (A 3), .int (nI (M.2.2.2.2.2.1)), .ref (A 4), .ref (A 5), .ref (A 6), .ref (A 7), .int (M.2.2.2.2.2.2.2.2.2.2.1), .int (M.2.2.2.2.2.2.2.2.2.2.2)]))], [(A 1, .inl (cyI, 91, .inl (M.2.1)))], [(A 2, .inl (cyI, 546, .inl (itr 455 (fun k g => upd g k (g (91 + k))) M.2.2.1)))], [(A 3, .inl (cyI, 60, .inl (M.2.2.2.2.1)))], [(A 4, .inl (cyI, 20, .inl (M.2.2.2.2.2.2.1)))], [(A 5, .inl (cyI, 6, .inl (M.2.2.2.2.2.2.2.1)))], [(A 6, .inl (cyI, 6, .inl (M.2.2.2.2.2.2.2.2.1)))], [(A 7, .inl (cyI, 6, .inl (M.2.2.2.2.2.2.2.2.2.1)))]]) := hD
      refine lv_iconst (v := (0 : Int32)) hx hb dX6_record_49 (by decide) ?_
      refine lv_istore_n (lv' := [(1, .int ((0 : Int32))), (0, .ref (A 0))]) hx hb dX6_record_50 rfl hl (by decide) rfl (fun ls hl => ?_)
      refine W_loop (α := Nat × (Nat → Int32)) (I := fun a9 H locs ls => (a9.1 ≤ 91) ∧ (a9.2 = itr a9.1 (fun k g => upd g (91 * 5 + k) (M.2.1 k)) (itr 455 (fun k g => upd g k (g (91 + k))) M.2.2.1)) ∧ va_P G vwCl (cat [[(A 0, .inr (6, [.int (M.1), .ref (A 1), .ref (A 2), .int (nI (5)), .ref (A 3), .int (nI (M.2.2.2.2.2.1)), .ref (A 4), .ref (A 5), .ref (A 6), .ref (A 7), .int (M.2.2.2.2.2.2.2.2.2.2.1), .int (M.2.2.2.2.2.2.2.2.2.2.2)]))], [(A 1, .inl (cyI, 91, .inl (M.2.1)))], [(A 2, .inl (cyI, 546, .inl (a9.2)))], [(A 3, .inl (cyI, 60, .inl (M.2.2.2.2.1)))], [(A 4, .inl (cyI, 20, .inl (M.2.2.2.2.2.2.1)))], [(A 5, .inl (cyI, 6, .inl (M.2.2.2.2.2.2.2.1)))], [(A 6, .inl (cyI, 6, .inl (M.2.2.2.2.2.2.2.2.1)))], [(A 7, .inl (cyI, 6, .inl (M.2.2.2.2.2.2.2.2.2.1)))]]) H ∧ va_D A9 (cat [[(A 0, .inr (6, [.int (M.1), .ref (A 1), .ref (A 2), .int (nI (5)), .ref (A 3), .int (nI (M.2.2.2.2.2.1)), .ref (A 4), .ref (A 5), .ref (A 6), .ref (A 7), .int (M.2.2.2.2.2.2.2.2.2.2.1), .int (M.2.2.2.2.2.2.2.2.2.2.2)]))], [(A 1, .inl (cyI, 91, .inl (M.2.1)))], [(A 2, .inl (cyI, 546, .inl (a9.2)))], [(A 3, .inl (cyI, 60, .inl (M.2.2.2.2.1)))], [(A 4, .inl (cyI, 20, .inl (M.2.2.2.2.2.2.1)))], [(A 5, .inl (cyI, 6, .inl (M.2.2.2.2.2.2.2.1)))], [(A 6, .inl (cyI, 6, .inl (M.2.2.2.2.2.2.2.2.1)))], [(A 7, .inl (cyI, 6, .inl (M.2.2.2.2.2.2.2.2.2.1)))]]) ∧ va_S A9 s9.heap H locs ∧ lv_has ls 2 [(1, .int (nI (a9.1))), (0, .ref (A 0))]) (μ := fun a9 => 91 - a9.1) (st := fun a9 => []) ?_ (0, itr 455 (fun k g => upd g k (g (91 + k))) M.2.2.1) _ _ _ ⟨(show 0 ≤ 91 from by omega), (show (itr 455 (fun k g => upd g k (g (91 + k))) M.2.2.1) = itr 0 (fun k g => upd g (91 * 5 + k) (M.2.1 k)) (itr 455 (fun k g => upd g k (g (91 + k))) M.2.2.1) from rfl), hP, hD, hS, lv_sub hl [0, 1] rfl⟩
      intro a9 ih_51 H locs ls hI
      obtain ⟨j, f2⟩ := a9
      obtain ⟨hj9, he9, hP9, hD9, hS9, hl9⟩ := hI
      have hj : j ≤ 91 := hj9
      have he : f2 = itr j (fun k g => upd g (91 * 5 + k) (M.2.1 k)) (itr 455 (fun k g => upd g k (g (91 + k))) M.2.2.1) := he9
      have hP : va_P G vwCl (cat [[(A 0, .inr (6, [.int (M.1), .ref (A 1), .ref (A 2), .int (nI (5)), .ref (A 3), .int (nI (M.2.2.2.2.2.1)), .ref (A 4), .ref (A 5), .ref (A 6), .ref (A 7), .int (M.2.2.2.2.2.2.2.2.2.2.1), .int (M.2.2.2.2.2.2.2.2.2.2.2)]))], [(A 1, .inl (cyI, 91, .inl (M.2.1)))], [(A 2, .inl (cyI, 546, .inl (f2)))], [(A 3, .inl (cyI, 60, .inl (M.2.2.2.2.1)))], [(A 4, .inl (cyI, 20, .inl (M.2.2.2.2.2.2.1)))], [(A 5, .inl (cyI, 6, .inl (M.2.2.2.2.2.2.2.1)))], [(A 6, .inl (cyI, 6, .inl (M.2.2.2.2.2.2.2.2.1)))], [(A 7, .inl (cyI, 6, .inl (M.2.2.2.2.2.2.2.2.2.1)))]]) H := hP9
      have hD : va_D A9 (cat [[(A 0, .inr (6, [.int (M.1), .ref (A 1), .ref (A 2), .int (nI (5)), .ref (A 3), .int (nI (M.2.2.2.2.2.1)), .ref (A 4), .ref (A 5), .ref (A 6), .ref (A 7), .int (M.2.2.2.2.2.2.2.2.2.2.1), .int (M.2.2.2.2.2.2.2.2.2.2.2)]))], [(A 1, .inl (cyI, 91, .inl (M.2.1)))], [(A 2, .inl (cyI, 546, .inl (f2)))], [(A 3, .inl (cyI, 60, .inl (M.2.2.2.2.1)))], [(A 4, .inl (cyI, 20, .inl (M.2.2.2.2.2.2.1)))], [(A 5, .inl (cyI, 6, .inl (M.2.2.2.2.2.2.2.1)))], [(A 6, .inl (cyI, 6, .inl (M.2.2.2.2.2.2.2.2.1)))], [(A 7, .inl (cyI, 6, .inl (M.2.2.2.2.2.2.2.2.2.1)))]]) := hD9
      have hS := hS9
      have hl : lv_has ls 2 [(1, .int (nI (j))), (0, .ref (A 0))] := hl9
      clear hj9 he9 hP9 hD9 hS9 hl9
      refine lv_iload_n hx hb dX6_record_51 rfl (lv_at hl 0 rfl) ?_
      refine lv_bipush (v := (91 : Int32)) hx hb dX6_record_52 (by decide) ?_
      refine lv_icmp_ge (tgt := 83) hx hb dX6_record_54 (by decide) (fun c_54 => ?_) (fun c_54 => ?_)
      · have c_54 : (91) ≤ (j) := (nI_leI (a := 91) (b := j) (by omega) (by omega)).mp c_54
        obtain rfl : 91 = j := by omega
        refine lv_aload_n hx hb dX6_record_83 rfl (lv_at hl 1 rfl) ?_
        refine lv_dup hx hb dX6_record_84 rfl ?_
        refine va_get (v := .int (nI (5))) (C := RX6) (T := TX6) (N := 12) hx hb hts hinX6 hown hK hP 0 rfl rfl 3 (by decide) hf39 (fun _ h9 => h9) rfl dX6_record_85 ?_
        refine lv_iconst (v := (1 : Int32)) hx hb dX6_record_88 (by decide) ?_
        refine lv_iadd hx hb dX6_record_89 ?_
        refine top_i (x' := nI (5 + 1)) (nI_add (5) (1)) ?_
        refine va_put (v := .int (nI (5 + 1))) (ty := .int) (C := RX6) (T := TX6) (N := 12) hx hb hts hinX6 tyX6 tyX6_ok nmX6 hown hK hP hD hS 0 rfl rfl 3 (by decide) hf39 (fun _ h9 => h9) rfl (by first | rfl | decide +kernel) rfl rfl (Nat.le_of_ble_eq_true rfl) dX6_record_90 (fun H locs hP hD hS => ?_)
        have hP : va_P G vwCl (cat [[(A 0, .inr (6, [.int (M.1), .ref (A 1), .ref (A 2), .int (nI (5 + 1)), .ref (A 3), .int (nI (M.2.2.2.2.2.1)), .ref (A 4), .ref (A 5), .ref (A 6), .ref (A 7), .int (M.2.2.2.2.2.2.2.2.2.2.1), .int (M.2.2.2.2.2.2.2.2.2.2.2)]))], [(A 1, .inl (cyI, 91, .inl (M.2.1)))], [(A 2, .inl (cyI, 546, .inl (f2)))], [(A 3, .inl (cyI, 60, .inl (M.2.2.2.2.1)))], [(A 4, .inl (cyI, 20, .inl (M.2.2.2.2.2.2.1)))], [(A 5, .inl (cyI, 6, .inl (M.2.2.2.2.2.2.2.1)))], [(A 6, .inl (cyI, 6, .inl (M.2.2.2.2.2.2.2.2.1)))], [(A 7, .inl (cyI, 6, .inl (M.2.2.2.2.2.2.2.2.2.1)))]]) H := hP
        have hD : va_D A9 (cat [[(A 0, .inr (6, [.int (M.1), .ref (A 1), .ref (A 2), .int (nI (5 + 1)), .ref (A 3), .int (nI (M.2.2.2.2.2.1)), .ref (A 4), .ref (A 5), .ref (A 6), .ref (A 7), .int (M.2.2.2.2.2.2.2.2.2.2.1), .int (M.2.2.2.2.2.2.2.2.2.2.2)]))], [(A 1, .inl (cyI, 91, .inl (M.2.1)))], [(A 2, .inl (cyI, 546, .inl (f2)))], [(A 3, .inl (cyI, 60, .inl (M.2.2.2.2.1)))], [(A 4, .inl (cyI, 20, .inl (M.2.2.2.2.2.2.1)))], [(A 5, .inl (cyI, 6, .inl (M.2.2.2.2.2.2.2.1)))], [(A 6, .inl (cyI, 6, .inl (M.2.2.2.2.2.2.2.2.1)))], [(A 7, .inl (cyI, 6, .inl (M.2.2.2.2.2.2.2.2.2.1)))]]) := hD
        have hgo : cat [[(A 0, .inr (6, [.int (M.1), .ref (A 1), .ref (A 2), .int (nI (5 + 1)), .ref (A 3), .int (nI (M.2.2.2.2.2.1)), .ref (A 4), .ref (A 5), .ref (A 6), .ref (A 7), .int (M.2.2.2.2.2.2.2.2.2.2.1), .int (M.2.2.2.2.2.2.2.2.2.2.2)]))], [(A 1, .inl (cyI, 91, .inl (M.2.1)))], [(A 2, .inl (cyI, 546, .inl (f2)))], [(A 3, .inl (cyI, 60, .inl (M.2.2.2.2.1)))], [(A 4, .inl (cyI, 20, .inl (M.2.2.2.2.2.2.1)))], [(A 5, .inl (cyI, 6, .inl (M.2.2.2.2.2.2.2.1)))], [(A 6, .inl (cyI, 6, .inl (M.2.2.2.2.2.2.2.2.1)))], [(A 7, .inl (cyI, 6, .inl (M.2.2.2.2.2.2.2.2.2.1)))]] = cat [mdW cyI A ((M.1, M.2.1, (recA M.2.1 M.2.2.1 M.2.2.2.1).1, (recA M.2.1 M.2.2.1 M.2.2.2.1).2, M.2.2.2.2.1, M.2.2.2.2.2.1, M.2.2.2.2.2.2.1, M.2.2.2.2.2.2.2.1, M.2.2.2.2.2.2.2.2.1, M.2.2.2.2.2.2.2.2.2.1, M.2.2.2.2.2.2.2.2.2.2.1, M.2.2.2.2.2.2.2.2.2.2.2))] := by first | (rw [show recA M.2.1 M.2.2.1 M.2.2.2.1 = (f2, 5 + 1) from by unfold recA; rw [if_pos c_6, he]]; rfl) | (rw [show recA M.2.1 M.2.2.1 M.2.2.2.1 = (f2, M.2.2.2.1 + 1) from by unfold recA; rw [if_neg c_6, he]]; rfl)
        rw [hgo] at hP hD
        have hP : va_P G vwCl (cat [mdW cyI A ((M.1, M.2.1, (recA M.2.1 M.2.2.1 M.2.2.2.1).1, (recA M.2.1 M.2.2.1 M.2.2.2.1).2, M.2.2.2.2.1, M.2.2.2.2.2.1, M.2.2.2.2.2.2.1, M.2.2.2.2.2.2.2.1, M.2.2.2.2.2.2.2.2.1, M.2.2.2.2.2.2.2.2.2.1, M.2.2.2.2.2.2.2.2.2.2.1, M.2.2.2.2.2.2.2.2.2.2.2))]) H := hP
        have hD : va_D A9 (cat [mdW cyI A ((M.1, M.2.1, (recA M.2.1 M.2.2.1 M.2.2.2.1).1, (recA M.2.1 M.2.2.1 M.2.2.2.1).2, M.2.2.2.2.1, M.2.2.2.2.2.1, M.2.2.2.2.2.2.1, M.2.2.2.2.2.2.2.1, M.2.2.2.2.2.2.2.2.1, M.2.2.2.2.2.2.2.2.2.1, M.2.2.2.2.2.2.2.2.2.2.1, M.2.2.2.2.2.2.2.2.2.2.2))]) := hD
        exact end_v hx hb hr hlocks hK hP hD hS dX6_record_93
      · have c_54 : ¬ (91) ≤ (j) := fun h9 => c_54 ((nI_leI (a := 91) (b := j) (by omega) (by omega)).mpr h9)
        refine lv_aload_n hx hb dX6_record_57 rfl (lv_at hl 1 rfl) ?_
        refine va_get (v := .ref (A 2)) (C := RX6) (T := TX6) (N := 12) hx hb hts hinX6 hown hK hP 0 rfl rfl 2 (by decide) hf13 (fun _ h9 => h9) rfl dX6_record_58 ?_
        refine lv_bipush (v := (91 : Int32)) hx hb dX6_record_61 (by decide) ?_
        refine lv_aload_n hx hb dX6_record_63 rfl (lv_at hl 1 rfl) ?_
        refine va_get (v := .int (nI (5))) (C := RX6) (T := TX6) (N := 12) hx hb hts hinX6 hown hK hP 0 rfl rfl 3 (by decide) hf39 (fun _ h9 => h9) rfl dX6_record_64 ?_
        refine lv_imul hx hb dX6_record_67 ?_
        refine top_i (x' := nI (91 * 5)) (pk_mul (91) (5)) ?_
        refine lv_iload_n hx hb dX6_record_68 rfl (lv_at hl 0 rfl) ?_
        refine lv_iadd hx hb dX6_record_69 ?_
        refine top_i (x' := nI ((91 * 5) + j)) (nI_add (91 * 5) (j)) ?_
        refine lv_aload_n hx hb dX6_record_70 rfl (lv_at hl 1 rfl) ?_
        refine va_get (v := .ref (A 1)) (C := RX6) (T := TX6) (N := 12) hx hb hts hinX6 hown hK hP 0 rfl rfl 1 (by decide) hf7 (fun _ h9 => h9) rfl dX6_record_71 ?_
        refine lv_iload_n hx hb dX6_record_74 rfl (lv_at hl 0 rfl) ?_
        refine r_ild (k := j) (n := 91) (f := M.2.1) hx hb hK hP 1 0 rfl rfl (by omega) (by omega) rfl dX6_record_75 ?_
        refine r_ist (k := (91 * 5) + j) (n := 546) (f := f2) hx hb hK hP hD hS 2 0 rfl rfl (by omega) (by omega) rfl dX6_record_76 (fun H locs hP hD hS => ?_)
        have hP : va_P G vwCl (cat [[(A 0, .inr (6, [.int (M.1), .ref (A 1), .ref (A 2), .int (nI (5)), .ref (A 3), .int (nI (M.2.2.2.2.2.1)), .ref (A 4), .ref (A 5), .ref (A 6), .ref (A 7), .int (M.2.2.2.2.2.2.2.2.2.2.1), .int (M.2.2.2.2.2.2.2.2.2.2.2)]))], [(A 1, .inl (cyI, 91, .inl (M.2.1)))], [(A 2, .inl (cyI, 546, .inl (upd f2 ((91 * 5) + j) (M.2.1 j))))], [(A 3, .inl (cyI, 60, .inl (M.2.2.2.2.1)))], [(A 4, .inl (cyI, 20, .inl (M.2.2.2.2.2.2.1)))], [(A 5, .inl (cyI, 6, .inl (M.2.2.2.2.2.2.2.1)))], [(A 6, .inl (cyI, 6, .inl (M.2.2.2.2.2.2.2.2.1)))], [(A 7, .inl (cyI, 6, .inl (M.2.2.2.2.2.2.2.2.2.1)))]]) H := hP
        have hD : va_D A9 (cat [[(A 0, .inr (6, [.int (M.1), .ref (A 1), .ref (A 2), .int (nI (5)), .ref (A 3), .int (nI (M.2.2.2.2.2.1)), .ref (A 4), .ref (A 5), .ref (A 6), .ref (A 7), .int (M.2.2.2.2.2.2.2.2.2.2.1), .int (M.2.2.2.2.2.2.2.2.2.2.2)]))], [(A 1, .inl (cyI, 91, .inl (M.2.1)))], [(A 2, .inl (cyI, 546, .inl (upd f2 ((91 * 5) + j) (M.2.1 j))))], [(A 3, .inl (cyI, 60, .inl (M.2.2.2.2.1)))], [(A 4, .inl (cyI, 20, .inl (M.2.2.2.2.2.2.1)))], [(A 5, .inl (cyI, 6, .inl (M.2.2.2.2.2.2.2.1)))], [(A 6, .inl (cyI, 6, .inl (M.2.2.2.2.2.2.2.2.1)))], [(A 7, .inl (cyI, 6, .inl (M.2.2.2.2.2.2.2.2.2.1)))]]) := hD
        refine lv_iinc (v := nI (j + 1)) (lv' := [(1, .int (nI (j + 1))), (0, .ref (A 0))]) hx hb dX6_record_77 hl (k := 0) rfl (nI_add _ _) (by decide) rfl (fun ls hl => ?_)
        refine lv_goto (tgt := 51) hx hb dX6_record_80 (by decide) ?_
        exact ih_51 (j + 1, upd f2 ((91 * 5) + j) (M.2.1 j)) (by show (91 - (j + 1)) < (91 - j); omega) _ _ _ ⟨(show (j + 1) ≤ 91 from by omega), (show (upd f2 ((91 * 5) + j) (M.2.1 j)) = itr (j + 1) (fun k g => upd g (91 * 5 + k) (M.2.1 k)) (itr 455 (fun k g => upd g k (g (91 + k))) M.2.2.1) from by rw [he]; rfl), hP, hD, hS, lv_sub hl [0, 1] rfl⟩
    · have c_15 : ¬ (455) ≤ (i) := fun h9 => c_15 ((nI_leI (a := 455) (b := i) (by omega) (by omega)).mpr h9)
      refine lv_aload_n hx hb dX6_record_18 rfl (lv_at hl 1 rfl) ?_
      refine va_get (v := .ref (A 2)) (C := RX6) (T := TX6) (N := 12) hx hb hts hinX6 hown hK hP 0 rfl rfl 2 (by decide) hf13 (fun _ h9 => h9) rfl dX6_record_19 ?_
      refine lv_iload_n hx hb dX6_record_22 rfl (lv_at hl 0 rfl) ?_
      refine lv_aload_n hx hb dX6_record_23 rfl (lv_at hl 1 rfl) ?_
      refine va_get (v := .ref (A 2)) (C := RX6) (T := TX6) (N := 12) hx hb hts hinX6 hown hK hP 0 rfl rfl 2 (by decide) hf13 (fun _ h9 => h9) rfl dX6_record_24 ?_
      refine lv_bipush (v := (91 : Int32)) hx hb dX6_record_27 (by decide) ?_
      refine lv_iload_n hx hb dX6_record_29 rfl (lv_at hl 0 rfl) ?_
      refine lv_iadd hx hb dX6_record_30 ?_
      refine top_i (x' := nI (91 + i)) (nI_add (91) (i)) ?_
      refine r_ild (k := 91 + i) (n := 546) (f := itr i (fun k g => upd g k (g (91 + k))) M.2.2.1) hx hb hK hP 2 0 rfl rfl (by omega) (by omega) rfl dX6_record_31 ?_
      refine r_ist (k := i) (n := 546) (f := itr i (fun k g => upd g k (g (91 + k))) M.2.2.1) hx hb hK hP hD hS 2 0 rfl rfl (by omega) (by omega) rfl dX6_record_32 (fun H locs hP hD hS => ?_)
      have hP : va_P G vwCl (cat [[(A 0, .inr (6, [.int (M.1), .ref (A 1), .ref (A 2), .int (nI (M.2.2.2.1)), .ref (A 3), .int (nI (M.2.2.2.2.2.1)), .ref (A 4), .ref (A 5), .ref (A 6), .ref (A 7), .int (M.2.2.2.2.2.2.2.2.2.2.1), .int (M.2.2.2.2.2.2.2.2.2.2.2)]))], [(A 1, .inl (cyI, 91, .inl (M.2.1)))], [(A 2, .inl (cyI, 546, .inl (upd (itr i (fun k g => upd g k (g (91 + k))) M.2.2.1) i ((itr i (fun k g => upd g k (g (91 + k))) M.2.2.1) (91 + i)))))], [(A 3, .inl (cyI, 60, .inl (M.2.2.2.2.1)))], [(A 4, .inl (cyI, 20, .inl (M.2.2.2.2.2.2.1)))], [(A 5, .inl (cyI, 6, .inl (M.2.2.2.2.2.2.2.1)))], [(A 6, .inl (cyI, 6, .inl (M.2.2.2.2.2.2.2.2.1)))], [(A 7, .inl (cyI, 6, .inl (M.2.2.2.2.2.2.2.2.2.1)))]]) H := hP
      have hD : va_D A9 (cat [[(A 0, .inr (6, [.int (M.1), .ref (A 1), .ref (A 2), .int (nI (M.2.2.2.1)), .ref (A 3), .int (nI (M.2.2.2.2.2.1)), .ref (A 4), .ref (A 5), .ref (A 6), .ref (A 7), .int (M.2.2.2.2.2.2.2.2.2.2.1), .int (M.2.2.2.2.2.2.2.2.2.2.2)]))], [(A 1, .inl (cyI, 91, .inl (M.2.1)))], [(A 2, .inl (cyI, 546, .inl (upd (itr i (fun k g => upd g k (g (91 + k))) M.2.2.1) i ((itr i (fun k g => upd g k (g (91 + k))) M.2.2.1) (91 + i)))))], [(A 3, .inl (cyI, 60, .inl (M.2.2.2.2.1)))], [(A 4, .inl (cyI, 20, .inl (M.2.2.2.2.2.2.1)))], [(A 5, .inl (cyI, 6, .inl (M.2.2.2.2.2.2.2.1)))], [(A 6, .inl (cyI, 6, .inl (M.2.2.2.2.2.2.2.2.1)))], [(A 7, .inl (cyI, 6, .inl (M.2.2.2.2.2.2.2.2.2.1)))]]) := hD
      refine lv_iinc (v := nI (i + 1)) (lv' := [(1, .int (nI (i + 1))), (0, .ref (A 0))]) hx hb dX6_record_33 hl (k := 0) rfl (nI_add _ _) (by decide) rfl (fun ls hl => ?_)
      refine lv_goto (tgt := 11) hx hb dX6_record_36 (by decide) ?_
      exact ih_11 (i + 1) (by show (455 - (i + 1)) < (455 - i); omega) _ _ _ ⟨(show (i + 1) ≤ 455 from by omega), hP, hD, hS, lv_sub hl [0, 1] rfl⟩

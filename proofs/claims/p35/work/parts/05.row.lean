/-! ===== DoorstepRounds$Row ===== -/
def rowGap (f : Nat → Int32) (n k : Nat) : Nat → Int32 := itr (n - 1 - k) (fun t g => upd g (k + t) (g (k + t + 1))) f
def rowFill (f : Nat → Int32) (n : Nat) (v : Int32) : Nat → Int32 := itr n (fun j g => upd g j v) f
def rowCopy (f f2 : Nat → Int32) (n : Nat) : Nat → Int32 := itr n (fun j g => upd g j (f2 j)) f
abbrev rm_X3_at : Room := { frames := 0, cells := 0, slots := 0, locals := 0 }
set_option maxHeartbeats 4000000 in
set_option maxRecDepth 100000 in
/-- Row.at -/
theorem c_X3_at (l : Launch) (G : va_G) (cyI cyO : ClassId) (r a n : Nat) (f : Nat → Int32) (x : Int32) (hn : n < 2147483648) : CI l G (TY cyI cyO) yX3_at wsX3_at rm_X3_at [.ref (r), .int (x)] [rowW cyI (r) (a) (n) (f)] (rowAt f n x) [rowW cyI (r) (a) (n) (f)] := by
  refine wk_I (cc := cX3_at) (maxL := 2) (ret := (some .int)) (by decide) rfl (Nat.le_of_ble_eq_true rfl) ?_
  intro p9 e9 s9 m9 b9 t9 c9 A9 ls hx hb hr hts hown hlocks hml hK hA hD hP hl hS hnm
  have hl : lv_has ls 2 [(0, .ref (r)), (1, .int (x))] := hl
  have hinX3 : ∀ w ∈ wsX30, w ∈ wsX3_at := by decide +kernel
  have hf9 := hts (.fieldLink RX3 9 "DoorstepRounds$Row" "numbers" "[I") (by decide +kernel)
  refine lv_iload_n hx hb dX3_at_0 rfl (lv_at hl 1 rfl) ?_
  refine lv_if_lt (tgt := 22) hx hb dX3_at_1 (by decide) (fun c_1 => ?_) (fun c_1 => ?_)
  · refine lv_iconst (v := (-1 : Int32)) hx hb dX3_at_22 (by decide) ?_
    have hP : va_P G vwCl (cat [rowW cyI (r) (a) (n) (f)]) s9.heap := hP
    have hD : va_D A9 (cat [rowW cyI (r) (a) (n) (f)]) := hD
    exact end_i hx hb hr hlocks hK hP hD hS (by simp [rowAt, c_1]) dX3_at_23
  · refine lv_iload_n hx hb dX3_at_4 rfl (lv_at hl 1 rfl) ?_
    refine lv_aload_n hx hb dX3_at_5 rfl (lv_at hl 0 rfl) ?_
    refine va_get (v := .ref (a)) (C := RX3) (T := TX3) (N := 1) hx hb hts hinX3 hown hK hP 0 rfl rfl 0 (by decide) hf9 (fun _ h9 => h9) rfl dX3_at_6 ?_
    refine va_alen (v := nI (n)) hx hb hK hP 1 0 rfl rfl rfl dX3_at_9 ?_
    refine lv_icmp_ge (tgt := 22) hx hb dX3_at_10 (by decide) (fun c_10 => ?_) (fun c_10 => ?_)
    · refine lv_iconst (v := (-1 : Int32)) hx hb dX3_at_22 (by decide) ?_
      have hP : va_P G vwCl (cat [rowW cyI (r) (a) (n) (f)]) s9.heap := hP
      have hD : va_D A9 (cat [rowW cyI (r) (a) (n) (f)]) := hD
      exact end_i hx hb hr hlocks hK hP hD hS (by simp [rowAt, c_1, c_10]) dX3_at_23
    · refine lv_aload_n hx hb dX3_at_13 rfl (lv_at hl 0 rfl) ?_
      refine va_get (v := .ref (a)) (C := RX3) (T := TX3) (N := 1) hx hb hts hinX3 hown hK hP 0 rfl rfl 0 (by decide) hf9 (fun _ h9 => h9) rfl dX3_at_14 ?_
      refine lv_iload_n hx hb dX3_at_17 rfl (lv_at hl 1 rfl) ?_
      refine va_iald (f := f) hx hb hK hP 1 0 rfl rfl (in_of hn c_1 c_10) dX3_at_18 ?_
      refine lv_goto (tgt := 23) hx hb dX3_at_19 (by decide) ?_
      have hP : va_P G vwCl (cat [rowW cyI (r) (a) (n) (f)]) s9.heap := hP
      have hD : va_D A9 (cat [rowW cyI (r) (a) (n) (f)]) := hD
      exact end_i hx hb hr hlocks hK hP hD hS (by simp [rowAt, c_1, c_10]) dX3_at_23
abbrev rm_X3_put : Room := { frames := 0, cells := 0, slots := 0, locals := 0 }
set_option maxHeartbeats 4000000 in
set_option maxRecDepth 100000 in
/-- Row.put -/
theorem c_X3_put (l : Launch) (G : va_G) (cyI cyO : ClassId) (r a n : Nat) (f : Nat → Int32) (x v : Int32) (hn : n < 2147483648) : CV l G (TY cyI cyO) yX3_put wsX3_put rm_X3_put [.ref (r), .int (x), .int (v)] [rowW cyI (r) (a) (n) (f)] [rowW cyI (r) (a) (n) (rowPut f n x v)] := by
  refine wk_V (cc := cX3_put) (maxL := 3) (ret := none) (by decide) rfl (Nat.le_of_ble_eq_true rfl) ?_
  intro p9 e9 s9 m9 b9 t9 c9 A9 ls hx hb hr hts hown hlocks hml hK hA hD hP hl hS hnm
  have hl : lv_has ls 3 [(0, .ref (r)), (1, .int (x)), (2, .int (v))] := hl
  have hinX3 : ∀ w ∈ wsX30, w ∈ wsX3_put := by decide +kernel
  have hf9 := hts (.fieldLink RX3 9 "DoorstepRounds$Row" "numbers" "[I") (by decide +kernel)
  refine lv_iload_n hx hb dX3_put_0 rfl (lv_at hl 1 rfl) ?_
  refine lv_if_lt (tgt := 20) hx hb dX3_put_1 (by decide) (fun c_1 => ?_) (fun c_1 => ?_)
  · have hgo : cat [rowW cyI (r) (a) (n) (f)] = cat [rowW cyI (r) (a) (n) (rowPut f n x v)] := by simp [rowPut, c_1]
    rw [hgo] at hP hD
    have hP : va_P G vwCl (cat [rowW cyI (r) (a) (n) (rowPut f n x v)]) s9.heap := hP
    have hD : va_D A9 (cat [rowW cyI (r) (a) (n) (rowPut f n x v)]) := hD
    exact end_v hx hb hr hlocks hK hP hD hS dX3_put_20
  · refine lv_iload_n hx hb dX3_put_4 rfl (lv_at hl 1 rfl) ?_
    refine lv_aload_n hx hb dX3_put_5 rfl (lv_at hl 0 rfl) ?_
    refine va_get (v := .ref (a)) (C := RX3) (T := TX3) (N := 1) hx hb hts hinX3 hown hK hP 0 rfl rfl 0 (by decide) hf9 (fun _ h9 => h9) rfl dX3_put_6 ?_
    refine va_alen (v := nI (n)) hx hb hK hP 1 0 rfl rfl rfl dX3_put_9 ?_
    refine lv_icmp_ge (tgt := 20) hx hb dX3_put_10 (by decide) (fun c_10 => ?_) (fun c_10 => ?_)
    · have hgo : cat [rowW cyI (r) (a) (n) (f)] = cat [rowW cyI (r) (a) (n) (rowPut f n x v)] := by simp [rowPut, c_1, c_10]
      rw [hgo] at hP hD
      have hP : va_P G vwCl (cat [rowW cyI (r) (a) (n) (rowPut f n x v)]) s9.heap := hP
      have hD : va_D A9 (cat [rowW cyI (r) (a) (n) (rowPut f n x v)]) := hD
      exact end_v hx hb hr hlocks hK hP hD hS dX3_put_20
    · refine lv_aload_n hx hb dX3_put_13 rfl (lv_at hl 0 rfl) ?_
      refine va_get (v := .ref (a)) (C := RX3) (T := TX3) (N := 1) hx hb hts hinX3 hown hK hP 0 rfl rfl 0 (by decide) hf9 (fun _ h9 => h9) rfl dX3_put_14 ?_
      refine lv_iload_n hx hb dX3_put_17 rfl (lv_at hl 1 rfl) ?_
      refine lv_iload_n hx hb dX3_put_18 rfl (lv_at hl 2 rfl) ?_
      refine va_iast (f := f) hx hb hK hP hD hS 1 0 rfl rfl (in_of hn c_1 c_10) dX3_put_19 (fun H locs hP hD hS => ?_)
      have hP : va_P G vwCl (cat [rowW cyI (r) (a) (n) (upd f x.toNatClampNeg v)]) H := hP
      have hD : va_D A9 (cat [rowW cyI (r) (a) (n) (upd f x.toNatClampNeg v)]) := hD
      have hgo : cat [rowW cyI (r) (a) (n) (upd f x.toNatClampNeg v)] = cat [rowW cyI (r) (a) (n) (rowPut f n x v)] := by simp [rowPut, c_1, c_10]
      rw [hgo] at hP hD
      have hP : va_P G vwCl (cat [rowW cyI (r) (a) (n) (rowPut f n x v)]) H := hP
      have hD : va_D A9 (cat [rowW cyI (r) (a) (n) (rowPut f n x v)]) := hD
      exact end_v hx hb hr hlocks hK hP hD hS dX3_put_20
abbrev rm_X3_increase : Room := { frames := 0, cells := 0, slots := 0, locals := 0 }
set_option maxHeartbeats 4000000 in
set_option maxRecDepth 100000 in
/-- Row.increase -/
theorem c_X3_increase (l : Launch) (G : va_G) (cyI cyO : ClassId) (r a n : Nat) (f : Nat → Int32) (x v : Int32) (hn : n < 2147483648) : CV l G (TY cyI cyO) yX3_increase wsX3_increase rm_X3_increase [.ref (r), .int (x), .int (v)] [rowW cyI (r) (a) (n) (f)] [rowW cyI (r) (a) (n) (rowInc f n x v)] := by
  refine wk_V (cc := cX3_increase) (maxL := 3) (ret := none) (by decide) rfl (Nat.le_of_ble_eq_true rfl) ?_
  intro p9 e9 s9 m9 b9 t9 c9 A9 ls hx hb hr hts hown hlocks hml hK hA hD hP hl hS hnm
  have hl : lv_has ls 3 [(0, .ref (r)), (1, .int (x)), (2, .int (v))] := hl
  have hinX3 : ∀ w ∈ wsX30, w ∈ wsX3_increase := by decide +kernel
  have hf9 := hts (.fieldLink RX3 9 "DoorstepRounds$Row" "numbers" "[I") (by decide +kernel)
  refine lv_iload_n hx hb dX3_increase_0 rfl (lv_at hl 1 rfl) ?_
  refine lv_if_lt (tgt := 23) hx hb dX3_increase_1 (by decide) (fun c_1 => ?_) (fun c_1 => ?_)
  · have hgo : cat [rowW cyI (r) (a) (n) (f)] = cat [rowW cyI (r) (a) (n) (rowInc f n x v)] := by simp [rowInc, c_1]
    rw [hgo] at hP hD
    have hP : va_P G vwCl (cat [rowW cyI (r) (a) (n) (rowInc f n x v)]) s9.heap := hP
    have hD : va_D A9 (cat [rowW cyI (r) (a) (n) (rowInc f n x v)]) := hD
    exact end_v hx hb hr hlocks hK hP hD hS dX3_increase_23
  · refine lv_iload_n hx hb dX3_increase_4 rfl (lv_at hl 1 rfl) ?_
    refine lv_aload_n hx hb dX3_increase_5 rfl (lv_at hl 0 rfl) ?_
    refine va_get (v := .ref (a)) (C := RX3) (T := TX3) (N := 1) hx hb hts hinX3 hown hK hP 0 rfl rfl 0 (by decide) hf9 (fun _ h9 => h9) rfl dX3_increase_6 ?_
    refine va_alen (v := nI (n)) hx hb hK hP 1 0 rfl rfl rfl dX3_increase_9 ?_
    refine lv_icmp_ge (tgt := 23) hx hb dX3_increase_10 (by decide) (fun c_10 => ?_) (fun c_10 => ?_)
    · have hgo : cat [rowW cyI (r) (a) (n) (f)] = cat [rowW cyI (r) (a) (n) (rowInc f n x v)] := by simp [rowInc, c_1, c_10]
      rw [hgo] at hP hD
      have hP : va_P G vwCl (cat [rowW cyI (r) (a) (n) (rowInc f n x v)]) s9.heap := hP
      have hD : va_D A9 (cat [rowW cyI (r) (a) (n) (rowInc f n x v)]) := hD
      exact end_v hx hb hr hlocks hK hP hD hS dX3_increase_23
    · refine lv_aload_n hx hb dX3_increase_13 rfl (lv_at hl 0 rfl) ?_
      refine va_get (v := .ref (a)) (C := RX3) (T := TX3) (N := 1) hx hb hts hinX3 hown hK hP 0 rfl rfl 0 (by decide) hf9 (fun _ h9 => h9) rfl dX3_increase_14 ?_
      refine lv_iload_n hx hb dX3_increase_17 rfl (lv_at hl 1 rfl) ?_
      refine lv_dup2_11 hx hb dX3_increase_18 rfl rfl ?_
      refine va_iald (f := f) hx hb hK hP 1 0 rfl rfl (in_of hn c_1 c_10) dX3_increase_19 ?_
      refine lv_iload_n hx hb dX3_increase_20 rfl (lv_at hl 2 rfl) ?_
      refine lv_iadd hx hb dX3_increase_21 ?_
      refine va_iast (f := f) hx hb hK hP hD hS 1 0 rfl rfl (in_of hn c_1 c_10) dX3_increase_22 (fun H locs hP hD hS => ?_)
      have hP : va_P G vwCl (cat [rowW cyI (r) (a) (n) (upd f x.toNatClampNeg ((f x.toNatClampNeg) + v))]) H := hP
      have hD : va_D A9 (cat [rowW cyI (r) (a) (n) (upd f x.toNatClampNeg ((f x.toNatClampNeg) + v))]) := hD
      have hgo : cat [rowW cyI (r) (a) (n) (upd f x.toNatClampNeg ((f x.toNatClampNeg) + v))] = cat [rowW cyI (r) (a) (n) (rowInc f n x v)] := by simp [rowInc, c_1, c_10]
      rw [hgo] at hP hD
      have hP : va_P G vwCl (cat [rowW cyI (r) (a) (n) (rowInc f n x v)]) H := hP
      have hD : va_D A9 (cat [rowW cyI (r) (a) (n) (rowInc f n x v)]) := hD
      exact end_v hx hb hr hlocks hK hP hD hS dX3_increase_23
abbrev rm_X3_closeGap : Room := { frames := 0, cells := 0, slots := 0, locals := 0 }
set_option maxHeartbeats 4000000 in
set_option maxRecDepth 100000 in
/-- Row.closeGap, inside the row -/
theorem c_X3_closeGap (l : Launch) (G : va_G) (cyI cyO : ClassId) (r a n : Nat) (f : Nat → Int32) (k : Nat) (hn : n < 2147483648) (hk : k < n) : CV l G (TY cyI cyO) yX3_closeGap wsX3_closeGap rm_X3_closeGap [.ref (r), .int (nI (k))] [rowW cyI (r) (a) (n) (f)] [rowW cyI (r) (a) (n) (rowGap f n k)] := by
  refine wk_V (cc := cX3_closeGap) (maxL := 3) (ret := none) (by decide) rfl (Nat.le_of_ble_eq_true rfl) ?_
  intro p9 e9 s9 m9 b9 t9 c9 A9 ls hx hb hr hts hown hlocks hml hK hA hD hP hl hS hnm
  have hl : lv_has ls 3 [(0, .ref (r)), (1, .int (nI (k)))] := hl
  have hinX3 : ∀ w ∈ wsX30, w ∈ wsX3_closeGap := by decide +kernel
  have hf9 := hts (.fieldLink RX3 9 "DoorstepRounds$Row" "numbers" "[I") (by decide +kernel)
  refine lv_iload_n hx hb dX3_closeGap_0 rfl (lv_at hl 1 rfl) ?_
  refine lv_if_ge (tgt := 5) hx hb dX3_closeGap_1 (by decide) (fun c_1 => ?_) (fun c_1 => ?_)
  · have c_1 : (0) ≤ (k) := (nI_leI (a := 0) (b := k) (by omega) (by omega)).mp c_1
    refine lv_iload_n hx hb dX3_closeGap_5 rfl (lv_at hl 1 rfl) ?_
    refine lv_istore_n (lv' := [(2, .int (nI (k))), (0, .ref (r)), (1, .int (nI (k)))]) hx hb dX3_closeGap_6 rfl hl (by decide) rfl (fun ls hl => ?_)
    refine W_loop (α := Nat) (I := fun a9 H locs ls => (k + a9 ≤ n - 1) ∧ va_P G vwCl (cat [rowW cyI (r) (a) (n) (itr a9 (fun a9 g => upd g (k + a9) (g (k + a9 + 1))) f)]) H ∧ va_D A9 (cat [rowW cyI (r) (a) (n) (itr a9 (fun a9 g => upd g (k + a9) (g (k + a9 + 1))) f)]) ∧ va_S A9 s9.heap H locs ∧ lv_has ls 3 [(2, .int (nI (k + a9))), (0, .ref (r)), (1, .int (nI (k)))]) (μ := fun a9 => n - a9) (st := fun a9 => []) ?_ (0) _ _ _ ⟨(show k + 0 ≤ n - 1 from by omega), hP, hD, hS, lv_sub hl [0, 1, 2] rfl⟩
    intro a9 ih_7 H locs ls hI
    obtain ⟨t, ea9⟩ : ∃ z, z = a9 := ⟨_, rfl⟩
    subst ea9
    obtain ⟨ht9, hP9, hD9, hS9, hl9⟩ := hI
    have ht : k + t ≤ n - 1 := ht9
    have hP : va_P G vwCl (cat [rowW cyI (r) (a) (n) (itr t (fun t g => upd g (k + t) (g (k + t + 1))) f)]) H := hP9
    have hD : va_D A9 (cat [rowW cyI (r) (a) (n) (itr t (fun t g => upd g (k + t) (g (k + t + 1))) f)]) := hD9
    have hS := hS9
    have hl : lv_has ls 3 [(2, .int (nI (k + t))), (0, .ref (r)), (1, .int (nI (k)))] := hl9
    clear ht9 hP9 hD9 hS9 hl9
    refine lv_iload_n hx hb dX3_closeGap_7 rfl (lv_at hl 0 rfl) ?_
    refine lv_aload_n hx hb dX3_closeGap_8 rfl (lv_at hl 1 rfl) ?_
    refine va_get (v := .ref (a)) (C := RX3) (T := TX3) (N := 1) hx hb hts hinX3 hown hK hP 0 rfl rfl 0 (by decide) hf9 (fun _ h9 => h9) rfl dX3_closeGap_9 ?_
    refine va_alen (v := nI (n)) hx hb hK hP 1 0 rfl rfl rfl dX3_closeGap_12 ?_
    refine lv_iconst (v := (1 : Int32)) hx hb dX3_closeGap_13 (by decide) ?_
    refine lv_isub hx hb dX3_closeGap_14 ?_
    refine top_i (x' := nI (n - 1)) (pk_sub (a := n) (b := 1) (by omega)) ?_
    refine lv_icmp_ge (tgt := 38) hx hb dX3_closeGap_15 (by decide) (fun c_15 => ?_) (fun c_15 => ?_)
    · have c_15 : (n - 1) ≤ (k + t) := (nI_leI (a := n - 1) (b := k + t) (by omega) (by omega)).mp c_15
      obtain rfl : n - 1 - k = t := by omega
      have hP : va_P G vwCl (cat [rowW cyI (r) (a) (n) (rowGap f n k)]) H := hP
      have hD : va_D A9 (cat [rowW cyI (r) (a) (n) (rowGap f n k)]) := hD
      exact end_v hx hb hr hlocks hK hP hD hS dX3_closeGap_38
    · have c_15 : ¬ (n - 1) ≤ (k + t) := fun h9 => c_15 ((nI_leI (a := n - 1) (b := k + t) (by omega) (by omega)).mpr h9)
      refine lv_aload_n hx hb dX3_closeGap_18 rfl (lv_at hl 1 rfl) ?_
      refine va_get (v := .ref (a)) (C := RX3) (T := TX3) (N := 1) hx hb hts hinX3 hown hK hP 0 rfl rfl 0 (by decide) hf9 (fun _ h9 => h9) rfl dX3_closeGap_19 ?_
      refine lv_iload_n hx hb dX3_closeGap_22 rfl (lv_at hl 0 rfl) ?_
      refine lv_aload_n hx hb dX3_closeGap_23 rfl (lv_at hl 1 rfl) ?_
      refine va_get (v := .ref (a)) (C := RX3) (T := TX3) (N := 1) hx hb hts hinX3 hown hK hP 0 rfl rfl 0 (by decide) hf9 (fun _ h9 => h9) rfl dX3_closeGap_24 ?_
      refine lv_iload_n hx hb dX3_closeGap_27 rfl (lv_at hl 0 rfl) ?_
      refine lv_iconst (v := (1 : Int32)) hx hb dX3_closeGap_28 (by decide) ?_
      refine lv_iadd hx hb dX3_closeGap_29 ?_
      refine top_i (x' := nI ((k + t) + 1)) (nI_add (k + t) (1)) ?_
      refine r_ild (k := (k + t) + 1) (n := n) (f := itr t (fun t g => upd g (k + t) (g (k + t + 1))) f) hx hb hK hP 1 0 rfl rfl (by omega) (by omega) rfl dX3_closeGap_30 ?_
      refine r_ist (k := k + t) (n := n) (f := itr t (fun t g => upd g (k + t) (g (k + t + 1))) f) hx hb hK hP hD hS 1 0 rfl rfl (by omega) (by omega) rfl dX3_closeGap_31 (fun H locs hP hD hS => ?_)
      have hP : va_P G vwCl (cat [rowW cyI (r) (a) (n) (upd (itr t (fun t g => upd g (k + t) (g (k + t + 1))) f) (k + t) ((itr t (fun t g => upd g (k + t) (g (k + t + 1))) f) ((k + t) + 1)))]) H := hP
      have hD : va_D A9 (cat [rowW cyI (r) (a) (n) (upd (itr t (fun t g => upd g (k + t) (g (k + t + 1))) f) (k + t) ((itr t (fun t g => upd g (k + t) (g (k + t + 1))) f) ((k + t) + 1)))]) := hD
      refine lv_iinc (v := nI (k + t + 1)) (lv' := [(2, .int (nI (k + t + 1))), (0, .ref (r)), (1, .int (nI (k)))]) hx hb dX3_closeGap_32 hl (k := 0) rfl (nI_add _ _) (by decide) rfl (fun ls hl => ?_)
      refine lv_goto (tgt := 7) hx hb dX3_closeGap_35 (by decide) ?_
      exact ih_7 (t + 1) (by show (n - (t + 1)) < (n - t); omega) _ _ _ ⟨(show k + (t + 1) ≤ n - 1 from by omega), hP, hD, hS, lv_sub hl [0, 1, 2] rfl⟩
  · have c_1 : ¬ (0) ≤ (k) := fun h9 => c_1 ((nI_leI (a := 0) (b := k) (by omega) (by omega)).mpr h9)
    exact absurd (by omega) c_1
abbrev rm_X3_fill : Room := { frames := 0, cells := 0, slots := 0, locals := 0 }
set_option maxHeartbeats 4000000 in
set_option maxRecDepth 100000 in
/-- Row.fill -/
theorem c_X3_fill (l : Launch) (G : va_G) (cyI cyO : ClassId) (r a n : Nat) (f : Nat → Int32) (v : Int32) (hn : n < 2147483648) : CV l G (TY cyI cyO) yX3_fill wsX3_fill rm_X3_fill [.ref (r), .int (v)] [rowW cyI (r) (a) (n) (f)] [rowW cyI (r) (a) (n) (rowFill f n v)] := by
  refine wk_V (cc := cX3_fill) (maxL := 3) (ret := none) (by decide) rfl (Nat.le_of_ble_eq_true rfl) ?_
  intro p9 e9 s9 m9 b9 t9 c9 A9 ls hx hb hr hts hown hlocks hml hK hA hD hP hl hS hnm
  have hl : lv_has ls 3 [(0, .ref (r)), (1, .int (v))] := hl
  have hinX3 : ∀ w ∈ wsX30, w ∈ wsX3_fill := by decide +kernel
  have hf9 := hts (.fieldLink RX3 9 "DoorstepRounds$Row" "numbers" "[I") (by decide +kernel)
  refine lv_iconst (v := (0 : Int32)) hx hb dX3_fill_0 (by decide) ?_
  refine lv_istore_n (lv' := [(2, .int ((0 : Int32))), (0, .ref (r)), (1, .int (v))]) hx hb dX3_fill_1 rfl hl (by decide) rfl (fun ls hl => ?_)
  refine W_loop (α := Nat) (I := fun a9 H locs ls => (a9 ≤ n) ∧ va_P G vwCl (cat [rowW cyI (r) (a) (n) (itr a9 (fun j g => upd g j v) f)]) H ∧ va_D A9 (cat [rowW cyI (r) (a) (n) (itr a9 (fun j g => upd g j v) f)]) ∧ va_S A9 s9.heap H locs ∧ lv_has ls 3 [(2, .int (nI (a9))), (0, .ref (r)), (1, .int (v))]) (μ := fun a9 => n - a9) (st := fun a9 => []) ?_ (0) _ _ _ ⟨(show 0 ≤ n from Nat.zero_le _), hP, hD, hS, lv_sub hl [0, 1, 2] rfl⟩
  intro a9 ih_2 H locs ls hI
  obtain ⟨i, ea9⟩ : ∃ z, z = a9 := ⟨_, rfl⟩
  subst ea9
  obtain ⟨hi9, hP9, hD9, hS9, hl9⟩ := hI
  have hi : i ≤ n := hi9
  have hP : va_P G vwCl (cat [rowW cyI (r) (a) (n) (itr i (fun j g => upd g j v) f)]) H := hP9
  have hD : va_D A9 (cat [rowW cyI (r) (a) (n) (itr i (fun j g => upd g j v) f)]) := hD9
  have hS := hS9
  have hl : lv_has ls 3 [(2, .int (nI (i))), (0, .ref (r)), (1, .int (v))] := hl9
  clear hi9 hP9 hD9 hS9 hl9
  refine lv_iload_n hx hb dX3_fill_2 rfl (lv_at hl 0 rfl) ?_
  refine lv_aload_n hx hb dX3_fill_3 rfl (lv_at hl 1 rfl) ?_
  refine va_get (v := .ref (a)) (C := RX3) (T := TX3) (N := 1) hx hb hts hinX3 hown hK hP 0 rfl rfl 0 (by decide) hf9 (fun _ h9 => h9) rfl dX3_fill_4 ?_
  refine va_alen (v := nI (n)) hx hb hK hP 1 0 rfl rfl rfl dX3_fill_7 ?_
  refine lv_icmp_ge (tgt := 24) hx hb dX3_fill_8 (by decide) (fun c_8 => ?_) (fun c_8 => ?_)
  · have c_8 : (n) ≤ (i) := (nI_leI (a := n) (b := i) (by omega) (by omega)).mp c_8
    obtain rfl : n = i := by omega
    have hP : va_P G vwCl (cat [rowW cyI (r) (a) (n) (rowFill f n v)]) H := hP
    have hD : va_D A9 (cat [rowW cyI (r) (a) (n) (rowFill f n v)]) := hD
    exact end_v hx hb hr hlocks hK hP hD hS dX3_fill_24
  · have c_8 : ¬ (n) ≤ (i) := fun h9 => c_8 ((nI_leI (a := n) (b := i) (by omega) (by omega)).mpr h9)
    refine lv_aload_n hx hb dX3_fill_11 rfl (lv_at hl 1 rfl) ?_
    refine va_get (v := .ref (a)) (C := RX3) (T := TX3) (N := 1) hx hb hts hinX3 hown hK hP 0 rfl rfl 0 (by decide) hf9 (fun _ h9 => h9) rfl dX3_fill_12 ?_
    refine lv_iload_n hx hb dX3_fill_15 rfl (lv_at hl 0 rfl) ?_
    refine lv_iload_n hx hb dX3_fill_16 rfl (lv_at hl 2 rfl) ?_
    refine r_ist (k := i) (n := n) (f := itr i (fun j g => upd g j v) f) hx hb hK hP hD hS 1 0 rfl rfl (by omega) (by omega) rfl dX3_fill_17 (fun H locs hP hD hS => ?_)
    have hP : va_P G vwCl (cat [rowW cyI (r) (a) (n) (upd (itr i (fun j g => upd g j v) f) i v)]) H := hP
    have hD : va_D A9 (cat [rowW cyI (r) (a) (n) (upd (itr i (fun j g => upd g j v) f) i v)]) := hD
    refine lv_iinc (v := nI (i + 1)) (lv' := [(2, .int (nI (i + 1))), (0, .ref (r)), (1, .int (v))]) hx hb dX3_fill_18 hl (k := 0) rfl (nI_add _ _) (by decide) rfl (fun ls hl => ?_)
    refine lv_goto (tgt := 2) hx hb dX3_fill_21 (by decide) ?_
    exact ih_2 (i + 1) (by show (n - (i + 1)) < (n - i); omega) _ _ _ ⟨(show (i + 1) ≤ n from by omega), hP, hD, hS, lv_sub hl [0, 1, 2] rfl⟩
abbrev rm_X3_copyFrom : Room := { frames := 1, cells := 0, slots := 0, locals := 21 }
set_option maxHeartbeats 4000000 in
set_option maxRecDepth 100000 in
/-- Row.copyFrom, of a row as long -/
theorem c_X3_copyFrom (l : Launch) (G : va_G) (cyI cyO : ClassId) (r a n r2 a2 : Nat) (f f2 : Nat → Int32) (hn : n < 2147483648) : CV l G (TY cyI cyO) yX3_copyFrom wsX3_copyFrom rm_X3_copyFrom [.ref (r), .ref (r2)] [rowW cyI (r) (a) (n) (f), rowW cyI (r2) (a2) (n) (f2)] [rowW cyI (r) (a) (n) (rowCopy f f2 n), rowW cyI (r2) (a2) (n) (f2)] := by
  refine wk_V (cc := cX3_copyFrom) (maxL := 3) (ret := none) (by decide) rfl (Nat.le_of_ble_eq_true rfl) ?_
  intro p9 e9 s9 m9 b9 t9 c9 A9 ls hx hb hr hts hown hlocks hml hK hA hD hP hl hS hnm
  have hl : lv_has ls 3 [(0, .ref (r)), (1, .ref (r2))] := hl
  have hinX3 : ∀ w ∈ wsX30, w ∈ wsX3_copyFrom := by decide +kernel
  have hf9 := hts (.fieldLink RX3 9 "DoorstepRounds$Row" "numbers" "[I") (by decide +kernel)
  refine lv_iconst (v := (0 : Int32)) hx hb dX3_copyFrom_0 (by decide) ?_
  refine lv_istore_n (lv' := [(2, .int ((0 : Int32))), (0, .ref (r)), (1, .ref (r2))]) hx hb dX3_copyFrom_1 rfl hl (by decide) rfl (fun ls hl => ?_)
  refine W_loop (α := Nat) (I := fun a9 H locs ls => (a9 ≤ n) ∧ va_P G vwCl (cat [rowW cyI (r) (a) (n) (itr a9 (fun j g => upd g j (f2 j)) f), rowW cyI (r2) (a2) (n) (f2)]) H ∧ va_D A9 (cat [rowW cyI (r) (a) (n) (itr a9 (fun j g => upd g j (f2 j)) f), rowW cyI (r2) (a2) (n) (f2)]) ∧ va_S A9 s9.heap H locs ∧ lv_has ls 3 [(2, .int (nI (a9))), (0, .ref (r)), (1, .ref (r2))]) (μ := fun a9 => n - a9) (st := fun a9 => []) ?_ (0) _ _ _ ⟨(show 0 ≤ n from Nat.zero_le _), hP, hD, hS, lv_sub hl [0, 1, 2] rfl⟩
  intro a9 ih_2 H locs ls hI
  obtain ⟨i, ea9⟩ : ∃ z, z = a9 := ⟨_, rfl⟩
  subst ea9
  obtain ⟨hi9, hP9, hD9, hS9, hl9⟩ := hI
  have hi : i ≤ n := hi9
  have hP : va_P G vwCl (cat [rowW cyI (r) (a) (n) (itr i (fun j g => upd g j (f2 j)) f), rowW cyI (r2) (a2) (n) (f2)]) H := hP9
  have hD : va_D A9 (cat [rowW cyI (r) (a) (n) (itr i (fun j g => upd g j (f2 j)) f), rowW cyI (r2) (a2) (n) (f2)]) := hD9
  have hS := hS9
  have hl : lv_has ls 3 [(2, .int (nI (i))), (0, .ref (r)), (1, .ref (r2))] := hl9
  clear hi9 hP9 hD9 hS9 hl9
  refine lv_iload_n hx hb dX3_copyFrom_2 rfl (lv_at hl 0 rfl) ?_
  refine lv_aload_n hx hb dX3_copyFrom_3 rfl (lv_at hl 1 rfl) ?_
  refine va_get (v := .ref (a)) (C := RX3) (T := TX3) (N := 1) hx hb hts hinX3 hown hK hP 0 rfl rfl 0 (by decide) hf9 (fun _ h9 => h9) rfl dX3_copyFrom_4 ?_
  refine va_alen (v := nI (n)) hx hb hK hP 1 0 rfl rfl rfl dX3_copyFrom_7 ?_
  refine lv_icmp_ge (tgt := 28) hx hb dX3_copyFrom_8 (by decide) (fun c_8 => ?_) (fun c_8 => ?_)
  · have c_8 : (n) ≤ (i) := (nI_leI (a := n) (b := i) (by omega) (by omega)).mp c_8
    obtain rfl : n = i := by omega
    have hP : va_P G vwCl (cat [rowW cyI (r) (a) (n) (rowCopy f f2 n), rowW cyI (r2) (a2) (n) (f2)]) H := hP
    have hD : va_D A9 (cat [rowW cyI (r) (a) (n) (rowCopy f f2 n), rowW cyI (r2) (a2) (n) (f2)]) := hD
    exact end_v hx hb hr hlocks hK hP hD hS dX3_copyFrom_28
  · have c_8 : ¬ (n) ≤ (i) := fun h9 => c_8 ((nI_leI (a := n) (b := i) (by omega) (by omega)).mpr h9)
    refine lv_aload_n hx hb dX3_copyFrom_11 rfl (lv_at hl 1 rfl) ?_
    refine va_get (v := .ref (a)) (C := RX3) (T := TX3) (N := 1) hx hb hts hinX3 hown hK hP 0 rfl rfl 0 (by decide) hf9 (fun _ h9 => h9) rfl dX3_copyFrom_12 ?_
    refine lv_iload_n hx hb dX3_copyFrom_15 rfl (lv_at hl 0 rfl) ?_
    refine lv_aload_n hx hb dX3_copyFrom_16 rfl (lv_at hl 2 rfl) ?_
    refine lv_iload_n hx hb dX3_copyFrom_17 rfl (lv_at hl 0 rfl) ?_
    refine gVi (gs := [rowW cyI (r) (a) (n) (itr i (fun j g => upd g j (f2 j)) f), rowW cyI (r2) (a2) (n) (f2)]) (As := [.int (nI (i))]) (rest := [.int (nI (i)), .ref (a)]) ⟨hx, hb, hml, hown, hts⟩ (c_X3_at l G cyI cyO r2 a2 n f2 (nI (i)) (by omega)) (cwV 1 hts gX3_copyFrom_X3_at rfl rfl rfl (by decide +kernel) ⟨Nat.le_of_ble_eq_true rfl, Nat.le_of_ble_eq_true rfl⟩) hK hP hD hS hA [1] rfl rfl rfl 0 3 rfl rfl rfl hl.1 rfl (Nat.le_of_ble_eq_true rfl) dX3_copyFrom_18 ⟨Nat.le_refl _, Nat.le_refl _⟩ (fun H locs hP hD hS => ?_)
    have hP : va_P G vwCl (cat [rowW cyI (r) (a) (n) (itr i (fun j g => upd g j (f2 j)) f), rowW cyI (r2) (a2) (n) (f2)]) H := hP
    have hD : va_D A9 (cat [rowW cyI (r) (a) (n) (itr i (fun j g => upd g j (f2 j)) f), rowW cyI (r2) (a2) (n) (f2)]) := hD
    refine top_i (x' := f2 i) (rowAt_in (by omega) hn) ?_
    refine r_ist (k := i) (n := n) (f := itr i (fun j g => upd g j (f2 j)) f) hx hb hK hP hD hS 1 0 rfl rfl (by omega) (by omega) rfl dX3_copyFrom_21 (fun H locs hP hD hS => ?_)
    have hP : va_P G vwCl (cat [rowW cyI (r) (a) (n) (upd (itr i (fun j g => upd g j (f2 j)) f) i (f2 i)), rowW cyI (r2) (a2) (n) (f2)]) H := hP
    have hD : va_D A9 (cat [rowW cyI (r) (a) (n) (upd (itr i (fun j g => upd g j (f2 j)) f) i (f2 i)), rowW cyI (r2) (a2) (n) (f2)]) := hD
    refine lv_iinc (v := nI (i + 1)) (lv' := [(2, .int (nI (i + 1))), (0, .ref (r)), (1, .ref (r2))]) hx hb dX3_copyFrom_22 hl (k := 0) rfl (nI_add _ _) (by decide) rfl (fun ls hl => ?_)
    refine lv_goto (tgt := 2) hx hb dX3_copyFrom_25 (by decide) ?_
    exact ih_2 (i + 1) (by show (n - (i + 1)) < (n - i); omega) _ _ _ ⟨(show (i + 1) ≤ n from by omega), hP, hD, hS, lv_sub hl [0, 1, 2] rfl⟩

/-! ===== the law's own methods: sharing out ===== -/

abbrev rm_L_low : Room := { frames := 0, cells := 0, slots := 0, locals := 0 }
set_option maxHeartbeats 4000000 in
set_option maxRecDepth 100000 in
theorem c_L_low (l : Launch) (G : va_G) (cyI cyO : ClassId) (v : Int32) (k : Nat) (hk0 : 0 < k) (hk : k < 100) : CI l G (TY cyI cyO) yL_low wsL_low rm_L_low [.int (v), .int (nI (k))] [] (nI (lowN v k)) [] := by
  refine wk_I (cc := cL_low) (maxL := 2) (ret := (some .int)) (by decide) rfl (Nat.le_of_ble_eq_true rfl) ?_
  intro p9 e9 s9 m9 b9 t9 c9 A9 ls hx hb hr hts hown hlocks hml hK hA hD hP hl hS hnm
  have hl : lv_has ls 2 [(0, .int (v)), (1, .int (nI (k)))] := hl
  refine lv_iload_n hx hb dL_low_0 rfl (lv_at hl 0 rfl) ?_
  refine lv_ldc (v := ((2147483647) : Int32)) hx hb hown (hts (.constant RL 8 (2147483647)) (by decide +kernel)) dL_low_1 ?_
  refine lv_iand hx hb dL_low_3 ?_
  refine top_i (x' := nI (v.toBitVec.toNat % 2 ^ 31)) (pk_and v 31 low_m) ?_
  refine lv_iload_n hx hb dL_low_4 rfl (lv_at hl 1 rfl) ?_
  refine lv_irem hx hb dL_low_5 (nI_ne0 (by omega) (by omega)) ?_
  refine top_i (x' := nI (lowN v k)) (pk_rem (Nat.mod_lt _ (by decide)) hk0 (by omega)) ?_
  have hP : va_P G vwCl (cat []) s9.heap := hP
  have hD : va_D A9 (cat []) := hD
  exact end_i hx hb hr hlocks hK hP hD hS (rfl) dL_low_6
abbrev rm_L_men : Room := { frames := 0, cells := 0, slots := 0, locals := 0 }
set_option maxHeartbeats 4000000 in
set_option maxRecDepth 100000 in
theorem c_L_men (l : Launch) (G : va_G) (cyI cyO : ClassId) (ag : Nat) (g : Nat → Int32) (M : Nat) (hM : M < 64) (h5 : g 5 = nI M) : CI l G (TY cyI cyO) yL_men wsL_men rm_L_men [.ref (ag)] [[(ag, .inl (cyI, 6, .inl (g)))]] (nI (menN M)) [[(ag, .inl (cyI, 6, .inl (g)))]] := by
  refine wk_I (cc := cL_men) (maxL := 3) (ret := (some .int)) (by decide) rfl (Nat.le_of_ble_eq_true rfl) ?_
  intro p9 e9 s9 m9 b9 t9 c9 A9 ls hx hb hr hts hown hlocks hml hK hA hD hP hl hS hnm
  have hl : lv_has ls 3 [(0, .ref (ag))] := hl
  refine lv_iconst (v := (0 : Int32)) hx hb dL_men_0 (by decide) ?_
  refine lv_istore_n (lv' := [(1, .int ((0 : Int32))), (0, .ref (ag))]) hx hb dL_men_1 rfl hl (by decide) rfl (fun ls hl => ?_)
  refine lv_iconst (v := (0 : Int32)) hx hb dL_men_2 (by decide) ?_
  refine lv_istore_n (lv' := [(2, .int ((0 : Int32))), (1, .int ((0 : Int32))), (0, .ref (ag))]) hx hb dL_men_3 rfl hl (by decide) rfl (fun ls hl => ?_)
  refine W_loop (α := Nat × Nat) (I := fun a9 H locs ls => (a9.1 ≤ 6) ∧ (a9.2 = itr a9.1 (mnStep M) 0) ∧ va_P G vwCl (cat [[(ag, .inl (cyI, 6, .inl (g)))]]) H ∧ va_D A9 (cat [[(ag, .inl (cyI, 6, .inl (g)))]]) ∧ va_S A9 s9.heap H locs ∧ lv_has ls 3 [(2, .int (nI (a9.1))), (1, .int (nI (a9.2))), (0, .ref (ag))]) (μ := fun a9 => 6 - a9.1) (st := fun a9 => []) ?_ (0, 0) _ _ _ ⟨(show 0 ≤ 6 from by omega), (show 0 = itr 0 (mnStep M) 0 from rfl), hP, hD, hS, lv_sub hl [0, 1, 2] rfl⟩
  intro a9 ih_4 H locs ls hI
  obtain ⟨i, x⟩ := a9
  obtain ⟨hi9, he9, hP9, hD9, hS9, hl9⟩ := hI
  have hi : i ≤ 6 := hi9
  have he : x = itr i (mnStep M) 0 := he9
  have hP : va_P G vwCl (cat [[(ag, .inl (cyI, 6, .inl (g)))]]) H := hP9
  have hD : va_D A9 (cat [[(ag, .inl (cyI, 6, .inl (g)))]]) := hD9
  have hS := hS9
  have hl : lv_has ls 3 [(2, .int (nI (i))), (1, .int (nI (x))), (0, .ref (ag))] := hl9
  clear hi9 he9 hP9 hD9 hS9 hl9
  refine lv_iload_n hx hb dL_men_4 rfl (lv_at hl 0 rfl) ?_
  refine lv_bipush (v := (6 : Int32)) hx hb dL_men_5 (by decide) ?_
  refine lv_icmp_ge (tgt := 26) hx hb dL_men_7 (by decide) (fun c_7 => ?_) (fun c_7 => ?_)
  · have c_7 : (6) ≤ (i) := (nI_leI (a := 6) (b := i) (by omega) (by omega)).mp c_7
    obtain rfl : 6 = i := by omega
    refine lv_iload_n hx hb dL_men_26 rfl (lv_at hl 1 rfl) ?_
    have hP : va_P G vwCl (cat [[(ag, .inl (cyI, 6, .inl (g)))]]) H := hP
    have hD : va_D A9 (cat [[(ag, .inl (cyI, 6, .inl (g)))]]) := hD
    exact end_i hx hb hr hlocks hK hP hD hS (by rw [he]; rfl) dL_men_27
  · have c_7 : ¬ (6) ≤ (i) := fun h9 => c_7 ((nI_leI (a := 6) (b := i) (by omega) (by omega)).mpr h9)
    refine lv_iload_n hx hb dL_men_10 rfl (lv_at hl 1 rfl) ?_
    refine lv_aload_n hx hb dL_men_11 rfl (lv_at hl 2 rfl) ?_
    refine lv_iconst (v := (5 : Int32)) hx hb dL_men_12 (by decide) ?_
    refine r_ild (k := 5) (n := 6) (f := g) hx hb hK hP 0 0 rfl rfl (by omega) (by omega) rfl dL_men_13 ?_
    refine top_i (x' := nI (M)) (h5) ?_
    refine lv_iload_n hx hb dL_men_14 rfl (lv_at hl 0 rfl) ?_
    refine lv_ishr hx hb dL_men_15 ?_
    refine lv_iconst (v := (1 : Int32)) hx hb dL_men_16 (by decide) ?_
    refine lv_iand hx hb dL_men_17 ?_
    refine top_i (x' := nI (bt M i)) (bt_all M (by omega) i (by omega)) ?_
    refine lv_iadd hx hb dL_men_18 ?_
    refine top_i (x' := nI (x + (bt M i))) (nI_add (x) (bt M i)) ?_
    refine lv_istore_n (lv' := [(1, .int (nI (x + (bt M i)))), (2, .int (nI (i))), (0, .ref (ag))]) hx hb dL_men_19 rfl hl (by decide) rfl (fun ls hl => ?_)
    refine lv_iinc (v := nI (i + 1)) (lv' := [(2, .int (nI (i + 1))), (1, .int (nI (x + (bt M i)))), (0, .ref (ag))]) hx hb dL_men_20 hl (k := 1) rfl (nI_add _ _) (by decide) rfl (fun ls hl => ?_)
    refine lv_goto (tgt := 4) hx hb dL_men_23 (by decide) ?_
    exact ih_4 (i + 1, x + (bt M i)) (by show (6 - (i + 1)) < (6 - i); omega) _ _ _ ⟨(show (i + 1) ≤ 6 from by omega), (show (x + (bt M i)) = itr (i + 1) (mnStep M) 0 from by show _ = mnStep M i (itr i _ _); rw [← he]; rfl), hP, hD, hS, lv_sub hl [0, 1, 2] rfl⟩
abbrev rm_L_roundOf : Room := { frames := 0, cells := 0, slots := 0, locals := 0 }
set_option maxHeartbeats 4000000 in
set_option maxRecDepth 100000 in
theorem c_L_roundOf (l : Launch) (G : va_G) (cyI cyO : ClassId) (ag aw : Nat) (g w : Nat → Int32) (n : Nat) (y : Int32) (hn : n ≤ 20) (h0 : g 0 = nI n) : CI l G (TY cyI cyO) yL_roundOf wsL_roundOf rm_L_roundOf [.ref (ag), .ref (aw), .int (y)] [[(ag, .inl (cyI, 6, .inl (g)))], [(aw, .inl (cyI, 20, .inl (w)))]] (nI (rSz w n y)) [[(ag, .inl (cyI, 6, .inl (g)))], [(aw, .inl (cyI, 20, .inl (w)))]] := by
  refine wk_I (cc := cL_roundOf) (maxL := 5) (ret := (some .int)) (by decide) rfl (Nat.le_of_ble_eq_true rfl) ?_
  intro p9 e9 s9 m9 b9 t9 c9 A9 ls hx hb hr hts hown hlocks hml hK hA hD hP hl hS hnm
  have hl : lv_has ls 5 [(0, .ref (ag)), (1, .ref (aw)), (2, .int (y))] := hl
  refine lv_iconst (v := (0 : Int32)) hx hb dL_roundOf_0 (by decide) ?_
  refine lv_istore_n (lv' := [(3, .int ((0 : Int32))), (0, .ref (ag)), (1, .ref (aw)), (2, .int (y))]) hx hb dL_roundOf_1 rfl hl (by decide) rfl (fun ls hl => ?_)
  refine lv_iconst (v := (0 : Int32)) hx hb dL_roundOf_2 (by decide) ?_
  refine lv_istore (lv' := [(4, .int ((0 : Int32))), (3, .int ((0 : Int32))), (0, .ref (ag)), (1, .ref (aw)), (2, .int (y))]) hx hb dL_roundOf_3 hl (by decide) rfl (fun ls hl => ?_)
  refine W_loop (α := Nat × Nat) (I := fun a9 H locs ls => (a9.1 ≤ n) ∧ (a9.2 = itr a9.1 (szStep w y) 0) ∧ va_P G vwCl (cat [[(ag, .inl (cyI, 6, .inl (g)))], [(aw, .inl (cyI, 20, .inl (w)))]]) H ∧ va_D A9 (cat [[(ag, .inl (cyI, 6, .inl (g)))], [(aw, .inl (cyI, 20, .inl (w)))]]) ∧ va_S A9 s9.heap H locs ∧ lv_has ls 5 [(4, .int (nI (a9.1))), (3, .int (nI (a9.2))), (0, .ref (ag)), (1, .ref (aw)), (2, .int (y))]) (μ := fun a9 => n - a9.1) (st := fun a9 => []) ?_ (0, 0) _ _ _ ⟨(show 0 ≤ n from by omega), (show 0 = itr 0 (szStep w y) 0 from rfl), hP, hD, hS, lv_sub hl [0, 1, 2, 3, 4] rfl⟩
  intro a9 ih_5 H locs ls hI
  obtain ⟨i, x⟩ := a9
  obtain ⟨hi9, he9, hP9, hD9, hS9, hl9⟩ := hI
  have hi : i ≤ n := hi9
  have he : x = itr i (szStep w y) 0 := he9
  have hP : va_P G vwCl (cat [[(ag, .inl (cyI, 6, .inl (g)))], [(aw, .inl (cyI, 20, .inl (w)))]]) H := hP9
  have hD : va_D A9 (cat [[(ag, .inl (cyI, 6, .inl (g)))], [(aw, .inl (cyI, 20, .inl (w)))]]) := hD9
  have hS := hS9
  have hl : lv_has ls 5 [(4, .int (nI (i))), (3, .int (nI (x))), (0, .ref (ag)), (1, .ref (aw)), (2, .int (y))] := hl9
  clear hi9 he9 hP9 hD9 hS9 hl9
  refine lv_iload hx hb dL_roundOf_5 (lv_at hl 0 rfl) ?_
  refine lv_aload_n hx hb dL_roundOf_7 rfl (lv_at hl 2 rfl) ?_
  refine lv_iconst (v := (0 : Int32)) hx hb dL_roundOf_8 (by decide) ?_
  refine r_ild (k := 0) (n := 6) (f := g) hx hb hK hP 0 0 rfl rfl (by omega) (by omega) rfl dL_roundOf_9 ?_
  refine top_i (x' := nI (n)) (h0) ?_
  refine lv_icmp_ge (tgt := 35) hx hb dL_roundOf_10 (by decide) (fun c_10 => ?_) (fun c_10 => ?_)
  · have c_10 : (n) ≤ (i) := (nI_leI (a := n) (b := i) (by omega) (by omega)).mp c_10
    obtain rfl : n = i := by omega
    refine lv_iload_n hx hb dL_roundOf_35 rfl (lv_at hl 1 rfl) ?_
    have hP : va_P G vwCl (cat [[(ag, .inl (cyI, 6, .inl (g)))], [(aw, .inl (cyI, 20, .inl (w)))]]) H := hP
    have hD : va_D A9 (cat [[(ag, .inl (cyI, 6, .inl (g)))], [(aw, .inl (cyI, 20, .inl (w)))]]) := hD
    exact end_i hx hb hr hlocks hK hP hD hS (by rw [he]; rfl) dL_roundOf_36
  · have c_10 : ¬ (n) ≤ (i) := fun h9 => c_10 ((nI_leI (a := n) (b := i) (by omega) (by omega)).mpr h9)
    refine lv_iload_n hx hb dL_roundOf_13 rfl (lv_at hl 1 rfl) ?_
    refine lv_aload_n hx hb dL_roundOf_14 rfl (lv_at hl 3 rfl) ?_
    refine lv_iload hx hb dL_roundOf_15 (lv_at hl 0 rfl) ?_
    refine r_ild (k := i) (n := 20) (f := w) hx hb hK hP 1 0 rfl rfl (by omega) (by omega) rfl dL_roundOf_17 ?_
    refine lv_iload_n hx hb dL_roundOf_18 rfl (lv_at hl 4 rfl) ?_
    refine lv_icmp_ne (tgt := 26) hx hb dL_roundOf_19 (by decide) (fun c_19 => ?_) (fun c_19 => ?_)
    · refine lv_iconst (v := (0 : Int32)) hx hb dL_roundOf_26 (by decide) ?_
      refine lv_iadd hx hb dL_roundOf_27 ?_
      refine top_i (x' := nI (x + 0)) (nI_add (x) (0)) ?_
      refine lv_istore_n (lv' := [(3, .int (nI (x + 0))), (4, .int (nI (i))), (0, .ref (ag)), (1, .ref (aw)), (2, .int (y))]) hx hb dL_roundOf_28 rfl hl (by decide) rfl (fun ls hl => ?_)
      refine lv_iinc (v := nI (i + 1)) (lv' := [(4, .int (nI (i + 1))), (3, .int (nI (x + 0))), (0, .ref (ag)), (1, .ref (aw)), (2, .int (y))]) hx hb dL_roundOf_29 hl (k := 1) rfl (nI_add _ _) (by decide) rfl (fun ls hl => ?_)
      refine lv_goto (tgt := 5) hx hb dL_roundOf_32 (by decide) ?_
      exact ih_5 (i + 1, x + 0) (by show (n - (i + 1)) < (n - i); omega) _ _ _ ⟨(show (i + 1) ≤ n from by omega), (show (x + 0) = itr (i + 1) (szStep w y) 0 from by show _ = szStep w y i (itr i _ _); rw [← he]; simp [szStep, c_10, c_19]), hP, hD, hS, lv_sub hl [0, 1, 2, 3, 4] rfl⟩
    · refine lv_iconst (v := (1 : Int32)) hx hb dL_roundOf_22 (by decide) ?_
      refine lv_goto (tgt := 27) hx hb dL_roundOf_23 (by decide) ?_
      refine lv_iadd hx hb dL_roundOf_27 ?_
      refine top_i (x' := nI (x + 1)) (nI_add (x) (1)) ?_
      refine lv_istore_n (lv' := [(3, .int (nI (x + 1))), (4, .int (nI (i))), (0, .ref (ag)), (1, .ref (aw)), (2, .int (y))]) hx hb dL_roundOf_28 rfl hl (by decide) rfl (fun ls hl => ?_)
      refine lv_iinc (v := nI (i + 1)) (lv' := [(4, .int (nI (i + 1))), (3, .int (nI (x + 1))), (0, .ref (ag)), (1, .ref (aw)), (2, .int (y))]) hx hb dL_roundOf_29 hl (k := 1) rfl (nI_add _ _) (by decide) rfl (fun ls hl => ?_)
      refine lv_goto (tgt := 5) hx hb dL_roundOf_32 (by decide) ?_
      exact ih_5 (i + 1, x + 1) (by show (n - (i + 1)) < (n - i); omega) _ _ _ ⟨(show (i + 1) ≤ n from by omega), (show (x + 1) = itr (i + 1) (szStep w y) 0 from by show _ = szStep w y i (itr i _ _); rw [← he]; simp [szStep, c_10, c_19]), hP, hD, hS, lv_sub hl [0, 1, 2, 3, 4] rfl⟩
abbrev rm_L_share : Room := { frames := 1, cells := 2, slots := 12, locals := 24 }
set_option maxHeartbeats 4000000 in
set_option maxRecDepth 100000 in
theorem c_L_share (l : Launch) (G : va_G) (cyI cyO : ClassId) (ag ap aw al : Nat) (g p o gl : Nat → Int32) (n M : Nat) (pn : Nat → Nat) (hL : LsP n M p o pn) (h0 : g 0 = nI n) (h5 : g 5 = nI M) : CA l G (TY cyI cyO) yL_share wsL_share rm_L_share [.ref (ag), .ref (ap), .ref (aw), .ref (al)] [[(ag, .inl (cyI, 6, .inl (g)))], [(ap, .inl (cyI, 20, .inl (p)))], [(aw, .inl (cyI, 20, .inl (o)))], [(al, .inl (cyI, 20, .inl (gl)))]] (lsR n M p o gl) [[(ag, .inl (cyI, 6, .inl (g)))], [(ap, .inl (cyI, 20, .inl (p)))], [(aw, .inl (cyI, 20, .inl (o)))], [(al, .inl (cyI, 20, .inl (lsG n M p o gl)))]] 2 12 := by
  refine wk_A (cc := cL_share) (maxL := 14) (ret := (some .int)) (mc := 2) (ms := 12) (by decide) rfl (Nat.le_of_ble_eq_true rfl) ?_
  intro p9 e9 s9 m9 b9 t9 c9 A9 ls hx hb hr hts hown hlocks hml hK hA hD hP hl hS hnm
  have hl : lv_has ls 14 [(0, .ref (ag)), (1, .ref (ap)), (2, .ref (aw)), (3, .ref (al))] := hl
  have hn : n ≤ 20 := hL.1
  have hM : M < 64 := hL.2.1
  have hc6 := menN_le M
  refine lv_aload_n hx hb dL_share_0 rfl (lv_at hl 0 rfl) ?_
  refine gSi (gs := [[(ag, .inl (cyI, 6, .inl (g)))], [(ap, .inl (cyI, 20, .inl (p)))], [(aw, .inl (cyI, 20, .inl (o)))], [(al, .inl (cyI, 20, .inl (gl)))]]) (As := [.ref (ag)]) (rest := []) ⟨hx, hb, hml, hown, hts⟩ (c_L_men l G cyI cyO ag g M (hM) (h5)) (va_cwS 1 hts gL_share_L_men rfl rfl rfl (by decide +kernel) ⟨Nat.le_of_ble_eq_true rfl, Nat.le_of_ble_eq_true rfl⟩) hK hP hD hS hA [0] rfl rfl rfl rfl hl.1 rfl (Nat.le_of_ble_eq_true rfl) dL_share_1 ⟨Nat.le_of_ble_eq_true rfl, Nat.le_of_ble_eq_true rfl⟩ (fun H locs hP hD hS => ?_)
  have hP : va_P G vwCl (cat [[(ag, .inl (cyI, 6, .inl (g)))], [(ap, .inl (cyI, 20, .inl (p)))], [(aw, .inl (cyI, 20, .inl (o)))], [(al, .inl (cyI, 20, .inl (gl)))]]) H := hP
  have hD : va_D A9 (cat [[(ag, .inl (cyI, 6, .inl (g)))], [(ap, .inl (cyI, 20, .inl (p)))], [(aw, .inl (cyI, 20, .inl (o)))], [(al, .inl (cyI, 20, .inl (gl)))]]) := hD
  refine lv_istore (lv' := [(4, .int (nI (menN M))), (0, .ref (ag)), (1, .ref (ap)), (2, .ref (aw)), (3, .ref (al))]) hx hb dL_share_4 hl (by decide) rfl (fun ls hl => ?_)
  refine lv_bipush (v := (6 : Int32)) hx hb dL_share_6 (by decide) ?_
  refine r_newa (t0 := 0) (k := 6) hx hb (hts (.arrayClass .int) (by decide +kernel)) hK rfl hP hD hS hA rfl (by omega) (by omega) ⟨Nat.le_of_ble_eq_true rfl, Nat.le_of_ble_eq_true rfl⟩ dL_share_8 (fun a8 H hP hD hS => ?_)
  have hP : va_P G vwCl (cat [[(ag, .inl (cyI, 6, .inl (g)))], [(ap, .inl (cyI, 20, .inl (p)))], [(aw, .inl (cyI, 20, .inl (o)))], [(al, .inl (cyI, 20, .inl (gl)))], [(a8, .inl (cyI, 6, .inl (fun _ => 0)))]]) H := hP
  have hD : va_D A9 (cat [[(ag, .inl (cyI, 6, .inl (g)))], [(ap, .inl (cyI, 20, .inl (p)))], [(aw, .inl (cyI, 20, .inl (o)))], [(al, .inl (cyI, 20, .inl (gl)))], [(a8, .inl (cyI, 6, .inl (fun _ => 0)))]]) := hD
  refine W.cs (cells' := 1) (slots' := 6) rfl rfl ?_
  refine lv_astore (lv' := [(5, .ref (a8)), (4, .int (nI (menN M))), (0, .ref (ag)), (1, .ref (ap)), (2, .ref (aw)), (3, .ref (al))]) hx hb dL_share_10 hl (by decide) rfl (fun ls hl => ?_)
  refine lv_bipush (v := (6 : Int32)) hx hb dL_share_12 (by decide) ?_
  refine r_newa (t0 := 0) (k := 6) hx hb (hts (.arrayClass .int) (by decide +kernel)) hK rfl hP hD hS hA rfl (by omega) (by omega) ⟨Nat.le_of_ble_eq_true rfl, Nat.le_of_ble_eq_true rfl⟩ dL_share_14 (fun a14 H hP hD hS => ?_)
  have hP : va_P G vwCl (cat [[(ag, .inl (cyI, 6, .inl (g)))], [(ap, .inl (cyI, 20, .inl (p)))], [(aw, .inl (cyI, 20, .inl (o)))], [(al, .inl (cyI, 20, .inl (gl)))], [(a8, .inl (cyI, 6, .inl (fun _ => 0)))], [(a14, .inl (cyI, 6, .inl (fun _ => 0)))]]) H := hP
  have hD : va_D A9 (cat [[(ag, .inl (cyI, 6, .inl (g)))], [(ap, .inl (cyI, 20, .inl (p)))], [(aw, .inl (cyI, 20, .inl (o)))], [(al, .inl (cyI, 20, .inl (gl)))], [(a8, .inl (cyI, 6, .inl (fun _ => 0)))], [(a14, .inl (cyI, 6, .inl (fun _ => 0)))]]) := hD
  refine W.cs (cells' := 2) (slots' := 12) rfl rfl ?_
  refine lv_astore (lv' := [(6, .ref (a14)), (5, .ref (a8)), (4, .int (nI (menN M))), (0, .ref (ag)), (1, .ref (ap)), (2, .ref (aw)), (3, .ref (al))]) hx hb dL_share_16 hl (by decide) rfl (fun ls hl => ?_)
  refine lv_iconst (v := (0 : Int32)) hx hb dL_share_18 (by decide) ?_
  refine lv_istore (lv' := [(7, .int ((0 : Int32))), (6, .ref (a14)), (5, .ref (a8)), (4, .int (nI (menN M))), (0, .ref (ag)), (1, .ref (ap)), (2, .ref (aw)), (3, .ref (al))]) hx hb dL_share_19 hl (by decide) rfl (fun ls hl => ?_)
  refine W_loop (α := Nat) (I := fun a9 H locs ls => (a9 ≤ n) ∧ va_P G vwCl (cat [[(ag, .inl (cyI, 6, .inl (g)))], [(ap, .inl (cyI, 20, .inl (p)))], [(aw, .inl (cyI, 20, .inl (o)))], [(al, .inl (cyI, 20, .inl (itr a9 (fun j g => upd g j (-1)) gl)))], [(a8, .inl (cyI, 6, .inl (fun _ => 0)))], [(a14, .inl (cyI, 6, .inl (fun _ => 0)))]]) H ∧ va_D A9 (cat [[(ag, .inl (cyI, 6, .inl (g)))], [(ap, .inl (cyI, 20, .inl (p)))], [(aw, .inl (cyI, 20, .inl (o)))], [(al, .inl (cyI, 20, .inl (itr a9 (fun j g => upd g j (-1)) gl)))], [(a8, .inl (cyI, 6, .inl (fun _ => 0)))], [(a14, .inl (cyI, 6, .inl (fun _ => 0)))]]) ∧ va_S A9 s9.heap H locs ∧ lv_has ls 14 [(7, .int (nI (a9))), (6, .ref (a14)), (5, .ref (a8)), (4, .int (nI (menN M))), (0, .ref (ag)), (1, .ref (ap)), (2, .ref (aw)), (3, .ref (al))]) (μ := fun a9 => n - a9) (st := fun a9 => []) ?_ (0) _ _ _ ⟨(show 0 ≤ n from by omega), hP, hD, hS, lv_sub hl [0, 1, 2, 3, 4, 5, 6, 7] rfl⟩
  intro a9 ih_21 H locs ls hI
  obtain ⟨i, ea9⟩ : ∃ z, z = a9 := ⟨_, rfl⟩
  subst ea9
  obtain ⟨hi9, hP9, hD9, hS9, hl9⟩ := hI
  have hi : i ≤ n := hi9
  have hP : va_P G vwCl (cat [[(ag, .inl (cyI, 6, .inl (g)))], [(ap, .inl (cyI, 20, .inl (p)))], [(aw, .inl (cyI, 20, .inl (o)))], [(al, .inl (cyI, 20, .inl (itr i (fun j g => upd g j (-1)) gl)))], [(a8, .inl (cyI, 6, .inl (fun _ => 0)))], [(a14, .inl (cyI, 6, .inl (fun _ => 0)))]]) H := hP9
  have hD : va_D A9 (cat [[(ag, .inl (cyI, 6, .inl (g)))], [(ap, .inl (cyI, 20, .inl (p)))], [(aw, .inl (cyI, 20, .inl (o)))], [(al, .inl (cyI, 20, .inl (itr i (fun j g => upd g j (-1)) gl)))], [(a8, .inl (cyI, 6, .inl (fun _ => 0)))], [(a14, .inl (cyI, 6, .inl (fun _ => 0)))]]) := hD9
  have hS := hS9
  have hl : lv_has ls 14 [(7, .int (nI (i))), (6, .ref (a14)), (5, .ref (a8)), (4, .int (nI (menN M))), (0, .ref (ag)), (1, .ref (ap)), (2, .ref (aw)), (3, .ref (al))] := hl9
  clear hi9 hP9 hD9 hS9 hl9
  refine lv_iload hx hb dL_share_21 (lv_at hl 0 rfl) ?_
  refine lv_aload_n hx hb dL_share_23 rfl (lv_at hl 4 rfl) ?_
  refine lv_iconst (v := (0 : Int32)) hx hb dL_share_24 (by decide) ?_
  refine r_ild (k := 0) (n := 6) (f := g) hx hb hK hP 0 0 rfl rfl (by omega) (by omega) rfl dL_share_25 ?_
  refine top_i (x' := nI (n)) (h0) ?_
  refine lv_icmp_ge (tgt := 40) hx hb dL_share_26 (by decide) (fun c_26 => ?_) (fun c_26 => ?_)
  · have c_26 : (n) ≤ (i) := (nI_leI (a := n) (b := i) (by omega) (by omega)).mp c_26
    obtain rfl : n = i := by omega
    have hP : va_P G vwCl (cat [[(ag, .inl (cyI, 6, .inl (g)))], [(ap, .inl (cyI, 20, .inl (p)))], [(aw, .inl (cyI, 20, .inl (o)))], [(al, .inl (cyI, 20, .inl (fillM n gl)))], [(a8, .inl (cyI, 6, .inl (fun _ => 0)))], [(a14, .inl (cyI, 6, .inl (fun _ => 0)))]]) H := hP
    have hD : va_D A9 (cat [[(ag, .inl (cyI, 6, .inl (g)))], [(ap, .inl (cyI, 20, .inl (p)))], [(aw, .inl (cyI, 20, .inl (o)))], [(al, .inl (cyI, 20, .inl (fillM n gl)))], [(a8, .inl (cyI, 6, .inl (fun _ => 0)))], [(a14, .inl (cyI, 6, .inl (fun _ => 0)))]]) := hD
    refine lv_iload hx hb dL_share_40 (lv_at hl 3 rfl) ?_
    refine lv_if_ne (tgt := 47) hx hb dL_share_42 (by decide) (fun c_42 => ?_) (fun c_42 => ?_)
    · have c_42 : ¬ (menN M) = (0) := fun h9 => c_42 ((nI_eq (a := menN M) (b := 0) (by omega) (by omega)).mpr h9)
      refine lv_aload_n hx hb dL_share_47 rfl (lv_at hl 4 rfl) ?_
      refine lv_iconst (v := (0 : Int32)) hx hb dL_share_48 (by decide) ?_
      refine r_ild (k := 0) (n := 6) (f := g) hx hb hK hP 0 0 rfl rfl (by omega) (by omega) rfl dL_share_49 ?_
      refine top_i (x' := nI (n)) (h0) ?_
      refine lv_iload hx hb dL_share_50 (lv_at hl 3 rfl) ?_
      refine lv_irem hx hb dL_share_52 (nI_ne0 (by omega) (by omega)) ?_
      have hr20 : n % menN M ≤ n := Nat.mod_le _ _
      refine top_i (x' := nI (n % menN M)) (pk_rem (by omega) (by omega) (by omega)) ?_
      refine lv_istore (lv' := [(7, .int (nI (n % menN M))), (6, .ref (a14)), (5, .ref (a8)), (4, .int (nI (menN M))), (0, .ref (ag)), (1, .ref (ap)), (2, .ref (aw)), (3, .ref (al))]) hx hb dL_share_53 hl (by decide) rfl (fun ls hl => ?_)
      refine lv_iconst (v := (0 : Int32)) hx hb dL_share_55 (by decide) ?_
      refine lv_istore (lv' := [(8, .int ((0 : Int32))), (7, .int (nI (n % menN M))), (6, .ref (a14)), (5, .ref (a8)), (4, .int (nI (menN M))), (0, .ref (ag)), (1, .ref (ap)), (2, .ref (aw)), (3, .ref (al))]) hx hb dL_share_56 hl (by decide) rfl (fun ls hl => ?_)
      refine W_loop (α := Nat) (I := fun a9 H locs ls => (a9 ≤ 6) ∧ va_P G vwCl (cat [[(ag, .inl (cyI, 6, .inl (g)))], [(ap, .inl (cyI, 20, .inl (p)))], [(aw, .inl (cyI, 20, .inl (o)))], [(al, .inl (cyI, 20, .inl (fillM n gl)))], [(a8, .inl (cyI, 6, .inl (itr a9 (fun j f => upd f j (nI (bt M j * (n / menN M)))) (fun _ => 0))))], [(a14, .inl (cyI, 6, .inl (fun _ => 0)))]]) H ∧ va_D A9 (cat [[(ag, .inl (cyI, 6, .inl (g)))], [(ap, .inl (cyI, 20, .inl (p)))], [(aw, .inl (cyI, 20, .inl (o)))], [(al, .inl (cyI, 20, .inl (fillM n gl)))], [(a8, .inl (cyI, 6, .inl (itr a9 (fun j f => upd f j (nI (bt M j * (n / menN M)))) (fun _ => 0))))], [(a14, .inl (cyI, 6, .inl (fun _ => 0)))]]) ∧ va_S A9 s9.heap H locs ∧ lv_has ls 14 [(8, .int (nI (a9))), (7, .int (nI (n % menN M))), (6, .ref (a14)), (5, .ref (a8)), (4, .int (nI (menN M))), (0, .ref (ag)), (1, .ref (ap)), (2, .ref (aw)), (3, .ref (al))]) (μ := fun a9 => 6 - a9) (st := fun a9 => []) ?_ (0) _ _ _ ⟨(show 0 ≤ 6 from by omega), hP, hD, hS, lv_sub hl [0, 1, 2, 3, 4, 5, 6, 7, 8] rfl⟩
      intro a9 ih_58 H locs ls hI
      obtain ⟨i, ea9⟩ : ∃ z, z = a9 := ⟨_, rfl⟩
      subst ea9
      obtain ⟨hi9, hP9, hD9, hS9, hl9⟩ := hI
      have hi : i ≤ 6 := hi9
      have hP : va_P G vwCl (cat [[(ag, .inl (cyI, 6, .inl (g)))], [(ap, .inl (cyI, 20, .inl (p)))], [(aw, .inl (cyI, 20, .inl (o)))], [(al, .inl (cyI, 20, .inl (fillM n gl)))], [(a8, .inl (cyI, 6, .inl (itr i (fun j f => upd f j (nI (bt M j * (n / menN M)))) (fun _ => 0))))], [(a14, .inl (cyI, 6, .inl (fun _ => 0)))]]) H := hP9
      have hD : va_D A9 (cat [[(ag, .inl (cyI, 6, .inl (g)))], [(ap, .inl (cyI, 20, .inl (p)))], [(aw, .inl (cyI, 20, .inl (o)))], [(al, .inl (cyI, 20, .inl (fillM n gl)))], [(a8, .inl (cyI, 6, .inl (itr i (fun j f => upd f j (nI (bt M j * (n / menN M)))) (fun _ => 0))))], [(a14, .inl (cyI, 6, .inl (fun _ => 0)))]]) := hD9
      have hS := hS9
      have hl : lv_has ls 14 [(8, .int (nI (i))), (7, .int (nI (n % menN M))), (6, .ref (a14)), (5, .ref (a8)), (4, .int (nI (menN M))), (0, .ref (ag)), (1, .ref (ap)), (2, .ref (aw)), (3, .ref (al))] := hl9
      clear hi9 hP9 hD9 hS9 hl9
      refine lv_iload hx hb dL_share_58 (lv_at hl 0 rfl) ?_
      refine lv_bipush (v := (6 : Int32)) hx hb dL_share_60 (by decide) ?_
      refine lv_icmp_ge (tgt := 91) hx hb dL_share_62 (by decide) (fun c_62 => ?_) (fun c_62 => ?_)
      · have c_62 : (6) ≤ (i) := (nI_leI (a := 6) (b := i) (by omega) (by omega)).mp c_62
        obtain rfl : 6 = i := by omega
        rw [qT_0 (n := n) (o := o) hM] at hP hD
        have hP : va_P G vwCl (cat [[(ag, .inl (cyI, 6, .inl (g)))], [(ap, .inl (cyI, 20, .inl (p)))], [(aw, .inl (cyI, 20, .inl (o)))], [(al, .inl (cyI, 20, .inl (fillM n gl)))], [(a8, .inl (cyI, 6, .inl (qT n M o 0)))], [(a14, .inl (cyI, 6, .inl (fun _ => 0)))]]) H := hP
        have hD : va_D A9 (cat [[(ag, .inl (cyI, 6, .inl (g)))], [(ap, .inl (cyI, 20, .inl (p)))], [(aw, .inl (cyI, 20, .inl (o)))], [(al, .inl (cyI, 20, .inl (fillM n gl)))], [(a8, .inl (cyI, 6, .inl (qT n M o 0)))], [(a14, .inl (cyI, 6, .inl (fun _ => 0)))]]) := hD
        refine lv_iconst (v := (0 : Int32)) hx hb dL_share_91 (by decide) ?_
        refine lv_istore (lv' := [(8, .int ((0 : Int32))), (7, .int (nI (n % menN M))), (6, .ref (a14)), (5, .ref (a8)), (4, .int (nI (menN M))), (0, .ref (ag)), (1, .ref (ap)), (2, .ref (aw)), (3, .ref (al))]) hx hb dL_share_92 hl (by decide) rfl (fun ls hl => ?_)
        have e0 : (0 : Int32) = nI (hdN n M o 0) := by rw [hd_0]; exact nI_0.symm
        rw [e0] at hl
        refine W_loop (α := Nat) (I := fun a9 H locs ls => (a9 ≤ n % menN M) ∧ va_P G vwCl (cat [[(ag, .inl (cyI, 6, .inl (g)))], [(ap, .inl (cyI, 20, .inl (p)))], [(aw, .inl (cyI, 20, .inl (o)))], [(al, .inl (cyI, 20, .inl (fillM n gl)))], [(a8, .inl (cyI, 6, .inl (qT n M o a9)))], [(a14, .inl (cyI, 6, .inl (fun _ => 0)))]]) H ∧ va_D A9 (cat [[(ag, .inl (cyI, 6, .inl (g)))], [(ap, .inl (cyI, 20, .inl (p)))], [(aw, .inl (cyI, 20, .inl (o)))], [(al, .inl (cyI, 20, .inl (fillM n gl)))], [(a8, .inl (cyI, 6, .inl (qT n M o a9)))], [(a14, .inl (cyI, 6, .inl (fun _ => 0)))]]) ∧ va_S A9 s9.heap H locs ∧ lv_has ls 14 [(8, .int (nI (hdN n M o a9))), (7, .int (nI (n % menN M - a9))), (6, .ref (a14)), (5, .ref (a8)), (4, .int (nI (menN M))), (0, .ref (ag)), (1, .ref (ap)), (2, .ref (aw)), (3, .ref (al))]) (μ := fun a9 => n % menN M - a9) (st := fun a9 => []) ?_ (0) _ _ _ ⟨(show 0 ≤ n % menN M from Nat.zero_le _), hP, hD, hS, lv_sub hl [0, 1, 2, 3, 4, 5, 6, 7, 8] rfl⟩
        intro a9 ih_94 H locs ls hI
        obtain ⟨t, ea9⟩ : ∃ z, z = a9 := ⟨_, rfl⟩
        subst ea9
        obtain ⟨ht9, hP9, hD9, hS9, hl9⟩ := hI
        have ht : t ≤ n % menN M := ht9
        have hP : va_P G vwCl (cat [[(ag, .inl (cyI, 6, .inl (g)))], [(ap, .inl (cyI, 20, .inl (p)))], [(aw, .inl (cyI, 20, .inl (o)))], [(al, .inl (cyI, 20, .inl (fillM n gl)))], [(a8, .inl (cyI, 6, .inl (qT n M o t)))], [(a14, .inl (cyI, 6, .inl (fun _ => 0)))]]) H := hP9
        have hD : va_D A9 (cat [[(ag, .inl (cyI, 6, .inl (g)))], [(ap, .inl (cyI, 20, .inl (p)))], [(aw, .inl (cyI, 20, .inl (o)))], [(al, .inl (cyI, 20, .inl (fillM n gl)))], [(a8, .inl (cyI, 6, .inl (qT n M o t)))], [(a14, .inl (cyI, 6, .inl (fun _ => 0)))]]) := hD9
        have hS := hS9
        have hl : lv_has ls 14 [(8, .int (nI (hdN n M o t))), (7, .int (nI (n % menN M - t))), (6, .ref (a14)), (5, .ref (a8)), (4, .int (nI (menN M))), (0, .ref (ag)), (1, .ref (ap)), (2, .ref (aw)), (3, .ref (al))] := hl9
        clear ht9 hP9 hD9 hS9 hl9
        refine lv_iload hx hb dL_share_94 (lv_at hl 1 rfl) ?_
        refine lv_if_le (tgt := 193) hx hb dL_share_96 (by decide) (fun c_96 => ?_) (fun c_96 => ?_)
        · have c_96 : (n % menN M - t) ≤ (0) := (nI_leI (a := n % menN M - t) (b := 0) (by omega) (by omega)).mp c_96
          obtain rfl : n % menN M = t := by omega
          refine lv_bipush (v := (9 : Int32)) hx hb dL_share_193 (by decide) ?_
          refine lv_istore (lv' := [(9, .int ((9 : Int32))), (8, .int (nI (hdN n M o (n % menN M)))), (7, .int (nI (n % menN M - (n % menN M)))), (6, .ref (a14)), (5, .ref (a8)), (4, .int (nI (menN M))), (0, .ref (ag)), (1, .ref (ap)), (2, .ref (aw)), (3, .ref (al))]) hx hb dL_share_195 hl (by decide) rfl (fun ls hl => ?_)
          refine W_loop (α := Nat × (Nat → Int32) × (Nat → Int32) × (Nat → Int32)) (I := fun a9 H locs ls => (a9.1 ≤ 9) ∧ ((a9.2.1, a9.2.2.1, a9.2.2.2) = itr a9.1 (kpOut n p o) (fillM n gl, qT n M o (n % menN M), fun _ => 0)) ∧ va_P G vwCl (cat [[(ag, .inl (cyI, 6, .inl (g)))], [(ap, .inl (cyI, 20, .inl (p)))], [(aw, .inl (cyI, 20, .inl (o)))], [(al, .inl (cyI, 20, .inl (a9.2.1)))], [(a8, .inl (cyI, 6, .inl (a9.2.2.1)))], [(a14, .inl (cyI, 6, .inl (a9.2.2.2)))]]) H ∧ va_D A9 (cat [[(ag, .inl (cyI, 6, .inl (g)))], [(ap, .inl (cyI, 20, .inl (p)))], [(aw, .inl (cyI, 20, .inl (o)))], [(al, .inl (cyI, 20, .inl (a9.2.1)))], [(a8, .inl (cyI, 6, .inl (a9.2.2.1)))], [(a14, .inl (cyI, 6, .inl (a9.2.2.2)))]]) ∧ va_S A9 s9.heap H locs ∧ lv_has ls 14 [(9, .int (nI (9 - a9.1))), (8, .int (nI (hdN n M o (n % menN M)))), (7, .int (nI (n % menN M - (n % menN M)))), (6, .ref (a14)), (5, .ref (a8)), (4, .int (nI (menN M))), (0, .ref (ag)), (1, .ref (ap)), (2, .ref (aw)), (3, .ref (al))]) (μ := fun a9 => 9 - a9.1) (st := fun a9 => []) ?_ (0, fillM n gl, qT n M o (n % menN M), fun _ => 0) _ _ _ ⟨(show 0 ≤ 9 from by omega), (show ((fillM n gl), (qT n M o (n % menN M)), (fun _ => 0)) = itr 0 (kpOut n p o) (fillM n gl, qT n M o (n % menN M), fun _ => 0) from rfl), hP, hD, hS, lv_sub hl [0, 1, 2, 3, 4, 5, 6, 7, 8, 9] rfl⟩
          intro a9 ih_197 H locs ls hI
          obtain ⟨r, f1, q1, l1⟩ := a9
          obtain ⟨hr99, he9, hP9, hD9, hS9, hl9⟩ := hI
          have hr9 : r ≤ 9 := hr99
          have he : (f1, q1, l1) = itr r (kpOut n p o) (fillM n gl, qT n M o (n % menN M), fun _ => 0) := he9
          have hP : va_P G vwCl (cat [[(ag, .inl (cyI, 6, .inl (g)))], [(ap, .inl (cyI, 20, .inl (p)))], [(aw, .inl (cyI, 20, .inl (o)))], [(al, .inl (cyI, 20, .inl (f1)))], [(a8, .inl (cyI, 6, .inl (q1)))], [(a14, .inl (cyI, 6, .inl (l1)))]]) H := hP9
          have hD : va_D A9 (cat [[(ag, .inl (cyI, 6, .inl (g)))], [(ap, .inl (cyI, 20, .inl (p)))], [(aw, .inl (cyI, 20, .inl (o)))], [(al, .inl (cyI, 20, .inl (f1)))], [(a8, .inl (cyI, 6, .inl (q1)))], [(a14, .inl (cyI, 6, .inl (l1)))]]) := hD9
          have hS := hS9
          have hl : lv_has ls 14 [(9, .int (nI (9 - r))), (8, .int (nI (hdN n M o (n % menN M)))), (7, .int (nI (n % menN M - (n % menN M)))), (6, .ref (a14)), (5, .ref (a8)), (4, .int (nI (menN M))), (0, .ref (ag)), (1, .ref (ap)), (2, .ref (aw)), (3, .ref (al))] := hl9
          clear hr99 he9 hP9 hD9 hS9 hl9
          refine lv_iload hx hb dL_share_197 (lv_at hl 0 rfl) ?_
          refine lv_if_le (tgt := 285) hx hb dL_share_199 (by decide) (fun c_199 => ?_) (fun c_199 => ?_)
          · have c_199 : (9 - r) ≤ (0) := (nI_leI (a := 9 - r) (b := 0) (by omega) (by omega)).mp c_199
            obtain rfl : 9 = r := by omega
            have e1 : f1 = (lsK n M p o gl).1 := congrArg (fun q => q.1) he
            have e2 : q1 = (lsK n M p o gl).2.1 := congrArg (fun q => q.2.1) he
            have e3 : l1 = (lsK n M p o gl).2.2 := congrArg (fun q => q.2.2) he
            subst e1 e2 e3
            refine lv_iconst (v := (0 : Int32)) hx hb dL_share_285 (by decide) ?_
            refine lv_istore (lv' := [(9, .int ((0 : Int32))), (8, .int (nI (hdN n M o (n % menN M)))), (7, .int (nI (n % menN M - (n % menN M)))), (6, .ref (a14)), (5, .ref (a8)), (4, .int (nI (menN M))), (0, .ref (ag)), (1, .ref (ap)), (2, .ref (aw)), (3, .ref (al))]) hx hb dL_share_286 hl (by decide) rfl (fun ls hl => ?_)
            refine lv_bipush (v := (9 : Int32)) hx hb dL_share_288 (by decide) ?_
            refine lv_istore (lv' := [(10, .int ((9 : Int32))), (9, .int ((0 : Int32))), (8, .int (nI (hdN n M o (n % menN M)))), (7, .int (nI (n % menN M - (n % menN M)))), (6, .ref (a14)), (5, .ref (a8)), (4, .int (nI (menN M))), (0, .ref (ag)), (1, .ref (ap)), (2, .ref (aw)), (3, .ref (al))]) hx hb dL_share_290 hl (by decide) rfl (fun ls hl => ?_)
            refine W_loop (α := Nat × (Nat → Int32) × (Nat → Int32) × (Nat → Int32) × Nat) (I := fun a9 H locs ls => (a9.1 ≤ 9) ∧ ((a9.2.1, a9.2.2.1, a9.2.2.2.1, a9.2.2.2.2) = itr a9.1 (gvOut n p) (ls0 n M p o gl)) ∧ va_P G vwCl (cat [[(ag, .inl (cyI, 6, .inl (g)))], [(ap, .inl (cyI, 20, .inl (p)))], [(aw, .inl (cyI, 20, .inl (o)))], [(al, .inl (cyI, 20, .inl (a9.2.1)))], [(a8, .inl (cyI, 6, .inl (a9.2.2.1)))], [(a14, .inl (cyI, 6, .inl (a9.2.2.2.1)))]]) H ∧ va_D A9 (cat [[(ag, .inl (cyI, 6, .inl (g)))], [(ap, .inl (cyI, 20, .inl (p)))], [(aw, .inl (cyI, 20, .inl (o)))], [(al, .inl (cyI, 20, .inl (a9.2.1)))], [(a8, .inl (cyI, 6, .inl (a9.2.2.1)))], [(a14, .inl (cyI, 6, .inl (a9.2.2.2.1)))]]) ∧ va_S A9 s9.heap H locs ∧ lv_has ls 14 [(10, .int (nI (9 - a9.1))), (9, .int (nI (a9.2.2.2.2))), (8, .int (nI (hdN n M o (n % menN M)))), (7, .int (nI (n % menN M - (n % menN M)))), (6, .ref (a14)), (5, .ref (a8)), (4, .int (nI (menN M))), (0, .ref (ag)), (1, .ref (ap)), (2, .ref (aw)), (3, .ref (al))]) (μ := fun a9 => 9 - a9.1) (st := fun a9 => []) ?_ (0, (lsK n M p o gl).1, (lsK n M p o gl).2.1, (lsK n M p o gl).2.2, 0) _ _ _ ⟨(show 0 ≤ 9 from by omega), (show (((lsK n M p o gl).1), ((lsK n M p o gl).2.1), ((lsK n M p o gl).2.2), 0) = itr 0 (gvOut n p) (ls0 n M p o gl) from rfl), hP, hD, hS, lv_sub hl [0, 1, 2, 3, 4, 5, 6, 7, 8, 9, 10] rfl⟩
            intro a9 ih_292 H locs ls hI
            obtain ⟨r, f1, q1, l1, ch⟩ := a9
            obtain ⟨hr99, he9, hP9, hD9, hS9, hl9⟩ := hI
            have hr9 : r ≤ 9 := hr99
            have he : (f1, q1, l1, ch) = itr r (gvOut n p) (ls0 n M p o gl) := he9
            have hP : va_P G vwCl (cat [[(ag, .inl (cyI, 6, .inl (g)))], [(ap, .inl (cyI, 20, .inl (p)))], [(aw, .inl (cyI, 20, .inl (o)))], [(al, .inl (cyI, 20, .inl (f1)))], [(a8, .inl (cyI, 6, .inl (q1)))], [(a14, .inl (cyI, 6, .inl (l1)))]]) H := hP9
            have hD : va_D A9 (cat [[(ag, .inl (cyI, 6, .inl (g)))], [(ap, .inl (cyI, 20, .inl (p)))], [(aw, .inl (cyI, 20, .inl (o)))], [(al, .inl (cyI, 20, .inl (f1)))], [(a8, .inl (cyI, 6, .inl (q1)))], [(a14, .inl (cyI, 6, .inl (l1)))]]) := hD9
            have hS := hS9
            have hl : lv_has ls 14 [(10, .int (nI (9 - r))), (9, .int (nI (ch))), (8, .int (nI (hdN n M o (n % menN M)))), (7, .int (nI (n % menN M - (n % menN M)))), (6, .ref (a14)), (5, .ref (a8)), (4, .int (nI (menN M))), (0, .ref (ag)), (1, .ref (ap)), (2, .ref (aw)), (3, .ref (al))] := hl9
            clear hr99 he9 hP9 hD9 hS9 hl9
            refine lv_iload hx hb dL_share_292 (lv_at hl 0 rfl) ?_
            refine lv_if_le (tgt := 419) hx hb dL_share_294 (by decide) (fun c_294 => ?_) (fun c_294 => ?_)
            · have c_294 : (9 - r) ≤ (0) := (nI_leI (a := 9 - r) (b := 0) (by omega) (by omega)).mp c_294
              obtain rfl : 9 = r := by omega
              have e1 : f1 = (lsZ n M p o gl).1 := congrArg (fun q => q.1) he
              have e4 : ch = (lsZ n M p o gl).2.2.2 := congrArg (fun q => q.2.2.2) he
              subst e1 e4
              refine lv_iload hx hb dL_share_419 (lv_at hl 1 rfl) ?_
              have hP := seg_P (gi := [[(ag, .inl (cyI, 6, .inl (g)))], [(ap, .inl (cyI, 20, .inl (p)))], [(aw, .inl (cyI, 20, .inl (o)))], [(al, .inl (cyI, 20, .inl ((lsZ n M p o gl).1)))]]) hP (is := [0, 1, 2, 3]) rfl rfl
              have hD := seg_D (gi := [[(ag, .inl (cyI, 6, .inl (g)))], [(ap, .inl (cyI, 20, .inl (p)))], [(aw, .inl (cyI, 20, .inl (o)))], [(al, .inl (cyI, 20, .inl ((lsZ n M p o gl).1)))]]) hD (is := [0, 1, 2, 3]) rfl rfl
              have hP : va_P G vwCl (cat [[(ag, .inl (cyI, 6, .inl (g)))], [(ap, .inl (cyI, 20, .inl (p)))], [(aw, .inl (cyI, 20, .inl (o)))], [(al, .inl (cyI, 20, .inl ((lsZ n M p o gl).1)))]]) H := hP
              have hD : va_D A9 (cat [[(ag, .inl (cyI, 6, .inl (g)))], [(ap, .inl (cyI, 20, .inl (p)))], [(aw, .inl (cyI, 20, .inl (o)))], [(al, .inl (cyI, 20, .inl ((lsZ n M p o gl).1)))]]) := hD
              refine W.widen (k := 2) (n := 12) (Nat.le_of_ble_eq_true rfl) (Nat.le_of_ble_eq_true rfl) ?_
              have hgo : cat [[(ag, .inl (cyI, 6, .inl (g)))], [(ap, .inl (cyI, 20, .inl (p)))], [(aw, .inl (cyI, 20, .inl (o)))], [(al, .inl (cyI, 20, .inl ((lsZ n M p o gl).1)))]] = cat [[(ag, .inl (cyI, 6, .inl (g)))], [(ap, .inl (cyI, 20, .inl (p)))], [(aw, .inl (cyI, 20, .inl (o)))], [(al, .inl (cyI, 20, .inl (lsG n M p o gl)))]] := by unfold lsG; rw [if_neg c_42]
              rw [hgo] at hP hD
              have hP : va_P G vwCl (cat [[(ag, .inl (cyI, 6, .inl (g)))], [(ap, .inl (cyI, 20, .inl (p)))], [(aw, .inl (cyI, 20, .inl (o)))], [(al, .inl (cyI, 20, .inl (lsG n M p o gl)))]]) H := hP
              have hD : va_D A9 (cat [[(ag, .inl (cyI, 6, .inl (g)))], [(ap, .inl (cyI, 20, .inl (p)))], [(aw, .inl (cyI, 20, .inl (o)))], [(al, .inl (cyI, 20, .inl (lsG n M p o gl)))]]) := hD
              exact end_i hx hb hr hlocks hK hP hD hS (by unfold lsR; rw [if_neg c_42]) dL_share_421
            · have c_294 : ¬ (9 - r) ≤ (0) := fun h9 => c_294 ((nI_leI (a := 9 - r) (b := 0) (by omega) (by omega)).mpr h9)
              refine lv_iconst (v := (0 : Int32)) hx hb dL_share_297 (by decide) ?_
              refine lv_istore (lv' := [(11, .int ((0 : Int32))), (10, .int (nI (9 - r))), (9, .int (nI (ch))), (8, .int (nI (hdN n M o (n % menN M)))), (7, .int (nI (n % menN M - (n % menN M)))), (6, .ref (a14)), (5, .ref (a8)), (4, .int (nI (menN M))), (0, .ref (ag)), (1, .ref (ap)), (2, .ref (aw)), (3, .ref (al))]) hx hb dL_share_298 hl (by decide) rfl (fun ls hl => ?_)
              refine W_loop (α := Nat × (Nat → Int32) × (Nat → Int32) × (Nat → Int32) × Nat) (I := fun a9 H locs ls => (a9.1 ≤ n) ∧ ((a9.2.1, a9.2.2.1, a9.2.2.2.1, a9.2.2.2.2) = itr a9.1 (gvStep p (nI (9 - r))) (f1, q1, l1, ch)) ∧ va_P G vwCl (cat [[(ag, .inl (cyI, 6, .inl (g)))], [(ap, .inl (cyI, 20, .inl (p)))], [(aw, .inl (cyI, 20, .inl (o)))], [(al, .inl (cyI, 20, .inl (a9.2.1)))], [(a8, .inl (cyI, 6, .inl (a9.2.2.1)))], [(a14, .inl (cyI, 6, .inl (a9.2.2.2.1)))]]) H ∧ va_D A9 (cat [[(ag, .inl (cyI, 6, .inl (g)))], [(ap, .inl (cyI, 20, .inl (p)))], [(aw, .inl (cyI, 20, .inl (o)))], [(al, .inl (cyI, 20, .inl (a9.2.1)))], [(a8, .inl (cyI, 6, .inl (a9.2.2.1)))], [(a14, .inl (cyI, 6, .inl (a9.2.2.2.1)))]]) ∧ va_S A9 s9.heap H locs ∧ lv_has ls 14 [(11, .int (nI (a9.1))), (10, .int (nI (9 - r))), (9, .int (nI (a9.2.2.2.2))), (8, .int (nI (hdN n M o (n % menN M)))), (7, .int (nI (n % menN M - (n % menN M)))), (6, .ref (a14)), (5, .ref (a8)), (4, .int (nI (menN M))), (0, .ref (ag)), (1, .ref (ap)), (2, .ref (aw)), (3, .ref (al))]) (μ := fun a9 => n - a9.1) (st := fun a9 => []) ?_ (0, f1, q1, l1, ch) _ _ _ ⟨(show 0 ≤ n from by omega), (show (f1, q1, l1, ch) = itr 0 (gvStep p (nI (9 - r))) (f1, q1, l1, ch) from rfl), hP, hD, hS, lv_sub hl [0, 1, 2, 3, 4, 5, 6, 7, 8, 9, 10, 11] rfl⟩
              intro a9 ih_300 H locs ls hI
              obtain ⟨i, f2, q2, l2, c2⟩ := a9
              obtain ⟨hi9, he29, hP9, hD9, hS9, hl9⟩ := hI
              have hi : i ≤ n := hi9
              have he2 : (f2, q2, l2, c2) = itr i (gvStep p (nI (9 - r))) (f1, q1, l1, ch) := he29
              have hP : va_P G vwCl (cat [[(ag, .inl (cyI, 6, .inl (g)))], [(ap, .inl (cyI, 20, .inl (p)))], [(aw, .inl (cyI, 20, .inl (o)))], [(al, .inl (cyI, 20, .inl (f2)))], [(a8, .inl (cyI, 6, .inl (q2)))], [(a14, .inl (cyI, 6, .inl (l2)))]]) H := hP9
              have hD : va_D A9 (cat [[(ag, .inl (cyI, 6, .inl (g)))], [(ap, .inl (cyI, 20, .inl (p)))], [(aw, .inl (cyI, 20, .inl (o)))], [(al, .inl (cyI, 20, .inl (f2)))], [(a8, .inl (cyI, 6, .inl (q2)))], [(a14, .inl (cyI, 6, .inl (l2)))]]) := hD9
              have hS := hS9
              have hl : lv_has ls 14 [(11, .int (nI (i))), (10, .int (nI (9 - r))), (9, .int (nI (c2))), (8, .int (nI (hdN n M o (n % menN M)))), (7, .int (nI (n % menN M - (n % menN M)))), (6, .ref (a14)), (5, .ref (a8)), (4, .int (nI (menN M))), (0, .ref (ag)), (1, .ref (ap)), (2, .ref (aw)), (3, .ref (al))] := hl9
              clear hi9 he29 hP9 hD9 hS9 hl9
              refine lv_iload hx hb dL_share_300 (lv_at hl 0 rfl) ?_
              refine lv_aload_n hx hb dL_share_302 rfl (lv_at hl 8 rfl) ?_
              refine lv_iconst (v := (0 : Int32)) hx hb dL_share_303 (by decide) ?_
              refine r_ild (k := 0) (n := 6) (f := g) hx hb hK hP 0 0 rfl rfl (by omega) (by omega) rfl dL_share_304 ?_
              refine top_i (x' := nI (n)) (h0) ?_
              refine lv_icmp_ge (tgt := 413) hx hb dL_share_305 (by decide) (fun c_305 => ?_) (fun c_305 => ?_)
              · have c_305 : (n) ≤ (i) := (nI_leI (a := n) (b := i) (by omega) (by omega)).mp c_305
                obtain rfl : n = i := by omega
                refine lv_iinc (v := nI (9 - (r + 1))) (lv' := [(10, .int (nI (9 - (r + 1)))), (11, .int (nI (n))), (9, .int (nI (c2))), (8, .int (nI (hdN n M o (n % menN M)))), (7, .int (nI (n % menN M - (n % menN M)))), (6, .ref (a14)), (5, .ref (a8)), (4, .int (nI (menN M))), (0, .ref (ag)), (1, .ref (ap)), (2, .ref (aw)), (3, .ref (al))]) hx hb dL_share_413 hl (k := 1) rfl (by rw [show 9 - r = (9 - (r + 1)) + 1 by omega]; exact pk_m1 _) (by decide) rfl (fun ls hl => ?_)
                refine lv_goto (tgt := 292) hx hb dL_share_416 (by decide) ?_
                exact ih_292 (r + 1, f2, q2, l2, c2) (by show (9 - (r + 1)) < (9 - r); omega) _ _ _ ⟨(show (r + 1) ≤ 9 from by omega), (show (f2, q2, l2, c2) = itr (r + 1) (gvOut n p) (ls0 n M p o gl) from by show _ = gvOut n p r (itr r _ _); rw [← he, he2]; rfl), hP, hD, hS, lv_sub hl [0, 2, 3, 4, 5, 6, 7, 8, 9, 10, 11] rfl⟩
              · have c_305 : ¬ (n) ≤ (i) := fun h9 => c_305 ((nI_leI (a := n) (b := i) (by omega) (by omega)).mpr h9)
                refine lv_aload_n hx hb dL_share_308 rfl (lv_at hl 9 rfl) ?_
                refine lv_iload hx hb dL_share_309 (lv_at hl 0 rfl) ?_
                refine r_ild (k := i) (n := 20) (f := p) hx hb hK hP 1 0 rfl rfl (by omega) (by omega) rfl dL_share_311 ?_
                refine lv_iload hx hb dL_share_312 (lv_at hl 1 rfl) ?_
                refine lv_icmp_ne (tgt := 407) hx hb dL_share_314 (by decide) (fun c_314 => ?_) (fun c_314 => ?_)
                · refine lv_iinc (v := nI (i + 1)) (lv' := [(11, .int (nI (i + 1))), (10, .int (nI (9 - r))), (9, .int (nI (c2))), (8, .int (nI (hdN n M o (n % menN M)))), (7, .int (nI (n % menN M - (n % menN M)))), (6, .ref (a14)), (5, .ref (a8)), (4, .int (nI (menN M))), (0, .ref (ag)), (1, .ref (ap)), (2, .ref (aw)), (3, .ref (al))]) hx hb dL_share_407 hl (k := 0) rfl (nI_add _ _) (by decide) rfl (fun ls hl => ?_)
                  refine lv_goto (tgt := 300) hx hb dL_share_410 (by decide) ?_
                  exact ih_300 (i + 1, f2, q2, l2, c2) (by show (n - (i + 1)) < (n - i); omega) _ _ _ ⟨(show (i + 1) ≤ n from by omega), (show (f2, q2, l2, c2) = itr (i + 1) (gvStep p (nI (9 - r))) (f1, q1, l1, ch) from by show _ = gvStep p (nI (9 - r)) i (itr i _ _); rw [← he2]; first | (simp [gvStep, c_26, c_42, c_62, c_96, c_199, c_294, c_305, c_314]; done) | (simp [gvStep, gvOne, c_26, c_42, c_62, c_96, c_199, c_294, c_305, c_314, eb2, hbk]; done)), hP, hD, hS, lv_sub hl [0, 1, 2, 3, 4, 5, 6, 7, 8, 9, 10, 11] rfl⟩
                · refine lv_aload_n hx hb dL_share_317 rfl (lv_at hl 11 rfl) ?_
                  refine lv_iload hx hb dL_share_318 (lv_at hl 0 rfl) ?_
                  refine r_ild (k := i) (n := 20) (f := f2) hx hb hK hP 3 0 rfl rfl (by omega) (by omega) rfl dL_share_320 ?_
                  refine lv_if_lt (tgt := 327) hx hb dL_share_321 (by decide) (fun c_321 => ?_) (fun c_321 => ?_)
                  · have hgo := go_ok (gl := gl) hL (by omega) r (by omega) i (by omega)
                    rw [← he, ← he2] at hgo
                    obtain ⟨b, hb6, -, eb, -, -⟩ := go_best hL hgo (show i < n by omega) c_321
                    have eb2 : lbAll q2 l2 = nI b := eb
                    have hbk : (nI b).toNatClampNeg = b := nI_clamp (by omega)
                    refine lv_iconst (v := (-1 : Int32)) hx hb dL_share_327 (by decide) ?_
                    refine lv_istore (lv' := [(12, .int ((-1 : Int32))), (11, .int (nI (i))), (10, .int (nI (9 - r))), (9, .int (nI (c2))), (8, .int (nI (hdN n M o (n % menN M)))), (7, .int (nI (n % menN M - (n % menN M)))), (6, .ref (a14)), (5, .ref (a8)), (4, .int (nI (menN M))), (0, .ref (ag)), (1, .ref (ap)), (2, .ref (aw)), (3, .ref (al))]) hx hb dL_share_328 hl (by decide) rfl (fun ls hl => ?_)
                    refine lv_iconst (v := (5 : Int32)) hx hb dL_share_330 (by decide) ?_
                    refine lv_istore (lv' := [(13, .int ((5 : Int32))), (12, .int ((-1 : Int32))), (11, .int (nI (i))), (10, .int (nI (9 - r))), (9, .int (nI (c2))), (8, .int (nI (hdN n M o (n % menN M)))), (7, .int (nI (n % menN M - (n % menN M)))), (6, .ref (a14)), (5, .ref (a8)), (4, .int (nI (menN M))), (0, .ref (ag)), (1, .ref (ap)), (2, .ref (aw)), (3, .ref (al))]) hx hb dL_share_331 hl (by decide) rfl (fun ls hl => ?_)
                    rw [show (5 : Int32) = dn (6 - 0) by decide +kernel] at hl
                    refine W_loop (α := Nat × Int32) (I := fun a9 H locs ls => (a9.1 ≤ 6) ∧ (a9.2 = itr a9.1 (lbStep q2 l2) (-1)) ∧ (a9.2 = -1 ∨ ∃ b, b < 6 ∧ a9.2 = nI b) ∧ va_P G vwCl (cat [[(ag, .inl (cyI, 6, .inl (g)))], [(ap, .inl (cyI, 20, .inl (p)))], [(aw, .inl (cyI, 20, .inl (o)))], [(al, .inl (cyI, 20, .inl (f2)))], [(a8, .inl (cyI, 6, .inl (q2)))], [(a14, .inl (cyI, 6, .inl (l2)))]]) H ∧ va_D A9 (cat [[(ag, .inl (cyI, 6, .inl (g)))], [(ap, .inl (cyI, 20, .inl (p)))], [(aw, .inl (cyI, 20, .inl (o)))], [(al, .inl (cyI, 20, .inl (f2)))], [(a8, .inl (cyI, 6, .inl (q2)))], [(a14, .inl (cyI, 6, .inl (l2)))]]) ∧ va_S A9 s9.heap H locs ∧ lv_has ls 14 [(13, .int (dn (6 - a9.1))), (12, .int (a9.2)), (11, .int (nI (i))), (10, .int (nI (9 - r))), (9, .int (nI (c2))), (8, .int (nI (hdN n M o (n % menN M)))), (7, .int (nI (n % menN M - (n % menN M)))), (6, .ref (a14)), (5, .ref (a8)), (4, .int (nI (menN M))), (0, .ref (ag)), (1, .ref (ap)), (2, .ref (aw)), (3, .ref (al))]) (μ := fun a9 => 6 - a9.1) (st := fun a9 => []) ?_ (0, -1) _ _ _ ⟨(show 0 ≤ 6 from by omega), (show (-1) = itr 0 (lbStep q2 l2) (-1) from rfl), (show (-1) = -1 ∨ ∃ b, b < 6 ∧ (-1) = nI b from Or.inl rfl), hP, hD, hS, lv_sub hl [0, 1, 2, 3, 4, 5, 6, 7, 8, 9, 10, 11, 12, 13] rfl⟩
                    intro a9 ih_333 H locs ls hI
                    obtain ⟨j, x⟩ := a9
                    obtain ⟨hj9, he39, hxb9, hP9, hD9, hS9, hl9⟩ := hI
                    have hj : j ≤ 6 := hj9
                    have he3 : x = itr j (lbStep q2 l2) (-1) := he39
                    have hxb : x = -1 ∨ ∃ b, b < 6 ∧ x = nI b := hxb9
                    have hP : va_P G vwCl (cat [[(ag, .inl (cyI, 6, .inl (g)))], [(ap, .inl (cyI, 20, .inl (p)))], [(aw, .inl (cyI, 20, .inl (o)))], [(al, .inl (cyI, 20, .inl (f2)))], [(a8, .inl (cyI, 6, .inl (q2)))], [(a14, .inl (cyI, 6, .inl (l2)))]]) H := hP9
                    have hD : va_D A9 (cat [[(ag, .inl (cyI, 6, .inl (g)))], [(ap, .inl (cyI, 20, .inl (p)))], [(aw, .inl (cyI, 20, .inl (o)))], [(al, .inl (cyI, 20, .inl (f2)))], [(a8, .inl (cyI, 6, .inl (q2)))], [(a14, .inl (cyI, 6, .inl (l2)))]]) := hD9
                    have hS := hS9
                    have hl : lv_has ls 14 [(13, .int (dn (6 - j))), (12, .int (x)), (11, .int (nI (i))), (10, .int (nI (9 - r))), (9, .int (nI (c2))), (8, .int (nI (hdN n M o (n % menN M)))), (7, .int (nI (n % menN M - (n % menN M)))), (6, .ref (a14)), (5, .ref (a8)), (4, .int (nI (menN M))), (0, .ref (ag)), (1, .ref (ap)), (2, .ref (aw)), (3, .ref (al))] := hl9
                    clear hj9 he39 hxb9 hP9 hD9 hS9 hl9
                    refine lv_iload hx hb dL_share_333 (lv_at hl 0 rfl) ?_
                    refine lv_if_lt (tgt := 379) hx hb dL_share_335 (by decide) (fun c_335 => ?_) (fun c_335 => ?_)
                    · obtain rfl : 6 = j := dn_end hj c_335
                      have ex : x = nI b := he3.trans eb2
                      rw [ex] at hl
                      have hl : lv_has ls 14 [(13, .int (dn (6 - 6))), (12, .int (nI (b))), (11, .int (nI (i))), (10, .int (nI (9 - r))), (9, .int (nI (c2))), (8, .int (nI (hdN n M o (n % menN M)))), (7, .int (nI (n % menN M - (n % menN M)))), (6, .ref (a14)), (5, .ref (a8)), (4, .int (nI (menN M))), (0, .ref (ag)), (1, .ref (ap)), (2, .ref (aw)), (3, .ref (al))] := hl
                      refine lv_aload_n hx hb dL_share_379 rfl (lv_at hl 13 rfl) ?_
                      refine lv_iload hx hb dL_share_380 (lv_at hl 2 rfl) ?_
                      refine lv_iload hx hb dL_share_382 (lv_at hl 1 rfl) ?_
                      refine r_ist (k := i) (n := 20) (f := f2) hx hb hK hP hD hS 3 0 rfl rfl (by omega) (by omega) rfl dL_share_384 (fun H locs hP hD hS => ?_)
                      have hP : va_P G vwCl (cat [[(ag, .inl (cyI, 6, .inl (g)))], [(ap, .inl (cyI, 20, .inl (p)))], [(aw, .inl (cyI, 20, .inl (o)))], [(al, .inl (cyI, 20, .inl (upd f2 i (nI (b)))))], [(a8, .inl (cyI, 6, .inl (q2)))], [(a14, .inl (cyI, 6, .inl (l2)))]]) H := hP
                      have hD : va_D A9 (cat [[(ag, .inl (cyI, 6, .inl (g)))], [(ap, .inl (cyI, 20, .inl (p)))], [(aw, .inl (cyI, 20, .inl (o)))], [(al, .inl (cyI, 20, .inl (upd f2 i (nI (b)))))], [(a8, .inl (cyI, 6, .inl (q2)))], [(a14, .inl (cyI, 6, .inl (l2)))]]) := hD
                      refine lv_aload hx hb dL_share_385 (lv_at hl 8 rfl) ?_
                      refine lv_iload hx hb dL_share_387 (lv_at hl 1 rfl) ?_
                      refine lv_dup2_11 hx hb dL_share_389 rfl rfl ?_
                      refine r_ild (k := b) (n := 6) (f := q2) hx hb hK hP 4 0 rfl rfl (by omega) (by omega) rfl dL_share_390 ?_
                      refine lv_iconst (v := (1 : Int32)) hx hb dL_share_391 (by decide) ?_
                      refine lv_isub hx hb dL_share_392 ?_
                      refine r_ist (k := b) (n := 6) (f := q2) hx hb hK hP hD hS 4 0 rfl rfl (by omega) (by omega) rfl dL_share_393 (fun H locs hP hD hS => ?_)
                      have hP : va_P G vwCl (cat [[(ag, .inl (cyI, 6, .inl (g)))], [(ap, .inl (cyI, 20, .inl (p)))], [(aw, .inl (cyI, 20, .inl (o)))], [(al, .inl (cyI, 20, .inl (upd f2 i (nI (b)))))], [(a8, .inl (cyI, 6, .inl (upd q2 b ((q2 b) - ((1 : Int32))))))], [(a14, .inl (cyI, 6, .inl (l2)))]]) H := hP
                      have hD : va_D A9 (cat [[(ag, .inl (cyI, 6, .inl (g)))], [(ap, .inl (cyI, 20, .inl (p)))], [(aw, .inl (cyI, 20, .inl (o)))], [(al, .inl (cyI, 20, .inl (upd f2 i (nI (b)))))], [(a8, .inl (cyI, 6, .inl (upd q2 b ((q2 b) - ((1 : Int32))))))], [(a14, .inl (cyI, 6, .inl (l2)))]]) := hD
                      refine lv_aload hx hb dL_share_394 (lv_at hl 7 rfl) ?_
                      refine lv_iload hx hb dL_share_396 (lv_at hl 1 rfl) ?_
                      refine lv_dup2_11 hx hb dL_share_398 rfl rfl ?_
                      refine r_ild (k := b) (n := 6) (f := l2) hx hb hK hP 5 0 rfl rfl (by omega) (by omega) rfl dL_share_399 ?_
                      refine lv_iload hx hb dL_share_400 (lv_at hl 3 rfl) ?_
                      refine lv_iadd hx hb dL_share_402 ?_
                      refine r_ist (k := b) (n := 6) (f := l2) hx hb hK hP hD hS 5 0 rfl rfl (by omega) (by omega) rfl dL_share_403 (fun H locs hP hD hS => ?_)
                      have hP : va_P G vwCl (cat [[(ag, .inl (cyI, 6, .inl (g)))], [(ap, .inl (cyI, 20, .inl (p)))], [(aw, .inl (cyI, 20, .inl (o)))], [(al, .inl (cyI, 20, .inl (upd f2 i (nI (b)))))], [(a8, .inl (cyI, 6, .inl (upd q2 b ((q2 b) - ((1 : Int32))))))], [(a14, .inl (cyI, 6, .inl (upd l2 b ((l2 b) + (nI (9 - r))))))]]) H := hP
                      have hD : va_D A9 (cat [[(ag, .inl (cyI, 6, .inl (g)))], [(ap, .inl (cyI, 20, .inl (p)))], [(aw, .inl (cyI, 20, .inl (o)))], [(al, .inl (cyI, 20, .inl (upd f2 i (nI (b)))))], [(a8, .inl (cyI, 6, .inl (upd q2 b ((q2 b) - ((1 : Int32))))))], [(a14, .inl (cyI, 6, .inl (upd l2 b ((l2 b) + (nI (9 - r))))))]]) := hD
                      refine lv_iinc (v := nI (c2 + 1)) (lv' := [(9, .int (nI (c2 + 1))), (13, .int (dn (6 - 6))), (12, .int (nI (b))), (11, .int (nI (i))), (10, .int (nI (9 - r))), (8, .int (nI (hdN n M o (n % menN M)))), (7, .int (nI (n % menN M - (n % menN M)))), (6, .ref (a14)), (5, .ref (a8)), (4, .int (nI (menN M))), (0, .ref (ag)), (1, .ref (ap)), (2, .ref (aw)), (3, .ref (al))]) hx hb dL_share_404 hl (k := 4) rfl (nI_add _ _) (by decide) rfl (fun ls hl => ?_)
                      refine lv_iinc (v := nI (i + 1)) (lv' := [(11, .int (nI (i + 1))), (9, .int (nI (c2 + 1))), (13, .int (dn (6 - 6))), (12, .int (nI (b))), (10, .int (nI (9 - r))), (8, .int (nI (hdN n M o (n % menN M)))), (7, .int (nI (n % menN M - (n % menN M)))), (6, .ref (a14)), (5, .ref (a8)), (4, .int (nI (menN M))), (0, .ref (ag)), (1, .ref (ap)), (2, .ref (aw)), (3, .ref (al))]) hx hb dL_share_407 hl (k := 3) rfl (nI_add _ _) (by decide) rfl (fun ls hl => ?_)
                      refine lv_goto (tgt := 300) hx hb dL_share_410 (by decide) ?_
                      exact ih_300 (i + 1, upd f2 i (nI (b)), upd q2 b ((q2 b) - ((1 : Int32))), upd l2 b ((l2 b) + (nI (9 - r))), c2 + 1) (by show (n - (i + 1)) < (n - i); omega) _ _ _ ⟨(show (i + 1) ≤ n from by omega), (show ((upd f2 i (nI (b))), (upd q2 b ((q2 b) - ((1 : Int32)))), (upd l2 b ((l2 b) + (nI (9 - r)))), (c2 + 1)) = itr (i + 1) (gvStep p (nI (9 - r))) (f1, q1, l1, ch) from by show _ = gvStep p (nI (9 - r)) i (itr i _ _); rw [← he2]; first | (simp [gvStep, c_26, c_42, c_62, c_96, c_199, c_294, c_305, c_314, c_321, c_335]; done) | (simp [gvStep, gvOne, c_26, c_42, c_62, c_96, c_199, c_294, c_305, c_314, c_321, c_335, eb2, hbk]; done)), hP, hD, hS, lv_sub hl [0, 4, 1, 5, 6, 7, 8, 9, 10, 11, 12, 13] rfl⟩
                    · obtain ⟨hj6, ed⟩ := dn_lt hj c_335
                      rw [ed] at hl
                      have hl : lv_has ls 14 [(13, .int (nI (5 - j))), (12, .int (x)), (11, .int (nI (i))), (10, .int (nI (9 - r))), (9, .int (nI (c2))), (8, .int (nI (hdN n M o (n % menN M)))), (7, .int (nI (n % menN M - (n % menN M)))), (6, .ref (a14)), (5, .ref (a8)), (4, .int (nI (menN M))), (0, .ref (ag)), (1, .ref (ap)), (2, .ref (aw)), (3, .ref (al))] := hl
                      refine lv_aload hx hb dL_share_338 (lv_at hl 8 rfl) ?_
                      refine lv_iload hx hb dL_share_340 (lv_at hl 0 rfl) ?_
                      refine r_ild (k := 5 - j) (n := 6) (f := q2) hx hb hK hP 4 0 rfl rfl (by omega) (by omega) rfl dL_share_342 ?_
                      refine lv_if_le (tgt := 369) hx hb dL_share_343 (by decide) (fun c_343 => ?_) (fun c_343 => ?_)
                      · refine lv_iload hx hb dL_share_369 (lv_at hl 1 rfl) ?_
                        refine lv_istore (lv' := [(12, .int (x)), (13, .int (nI (5 - j))), (11, .int (nI (i))), (10, .int (nI (9 - r))), (9, .int (nI (c2))), (8, .int (nI (hdN n M o (n % menN M)))), (7, .int (nI (n % menN M - (n % menN M)))), (6, .ref (a14)), (5, .ref (a8)), (4, .int (nI (menN M))), (0, .ref (ag)), (1, .ref (ap)), (2, .ref (aw)), (3, .ref (al))]) hx hb dL_share_371 hl (by decide) rfl (fun ls hl => ?_)
                        refine lv_iinc (v := dn (6 - (j + 1))) (lv' := [(13, .int (dn (6 - (j + 1)))), (12, .int (x)), (11, .int (nI (i))), (10, .int (nI (9 - r))), (9, .int (nI (c2))), (8, .int (nI (hdN n M o (n % menN M)))), (7, .int (nI (n % menN M - (n % menN M)))), (6, .ref (a14)), (5, .ref (a8)), (4, .int (nI (menN M))), (0, .ref (ag)), (1, .ref (ap)), (2, .ref (aw)), (3, .ref (al))]) hx hb dL_share_373 hl (k := 1) rfl (dn_next hj6) (by decide) rfl (fun ls hl => ?_)
                        refine lv_goto (tgt := 333) hx hb dL_share_376 (by decide) ?_
                        exact ih_333 (j + 1, x) (by show (6 - (j + 1)) < (6 - j); omega) _ _ _ ⟨(show (j + 1) ≤ 6 from by omega), (show x = itr (j + 1) (lbStep q2 l2) (-1) from by show _ = lbStep q2 l2 j (itr j _ _); rw [← he3]; first | (simp [lbStep, c_26, c_42, c_62, c_96, c_199, c_294, c_305, c_314, c_321, c_335, c_343]; done) | (simp [lbStep, c_26, c_42, c_62, c_96, c_199, c_294, c_305, c_314, c_321, c_335, c_343, exb, hbc, hb0]; done)), (show x = -1 ∨ ∃ b, b < 6 ∧ x = nI b from by first | exact hxb | exact Or.inr ⟨5 - j, by omega, rfl⟩), hP, hD, hS, lv_sub hl [0, 1, 2, 3, 4, 5, 6, 7, 8, 9, 10, 11, 12, 13] rfl⟩
                      · refine lv_iload hx hb dL_share_346 (lv_at hl 1 rfl) ?_
                        refine lv_if_lt (tgt := 364) hx hb dL_share_348 (by decide) (fun c_348 => ?_) (fun c_348 => ?_)
                        · refine lv_iload hx hb dL_share_364 (lv_at hl 0 rfl) ?_
                          refine lv_goto (tgt := 371) hx hb dL_share_366 (by decide) ?_
                          refine lv_istore (lv' := [(12, .int (nI (5 - j))), (13, .int (nI (5 - j))), (11, .int (nI (i))), (10, .int (nI (9 - r))), (9, .int (nI (c2))), (8, .int (nI (hdN n M o (n % menN M)))), (7, .int (nI (n % menN M - (n % menN M)))), (6, .ref (a14)), (5, .ref (a8)), (4, .int (nI (menN M))), (0, .ref (ag)), (1, .ref (ap)), (2, .ref (aw)), (3, .ref (al))]) hx hb dL_share_371 hl (by decide) rfl (fun ls hl => ?_)
                          refine lv_iinc (v := dn (6 - (j + 1))) (lv' := [(13, .int (dn (6 - (j + 1)))), (12, .int (nI (5 - j))), (11, .int (nI (i))), (10, .int (nI (9 - r))), (9, .int (nI (c2))), (8, .int (nI (hdN n M o (n % menN M)))), (7, .int (nI (n % menN M - (n % menN M)))), (6, .ref (a14)), (5, .ref (a8)), (4, .int (nI (menN M))), (0, .ref (ag)), (1, .ref (ap)), (2, .ref (aw)), (3, .ref (al))]) hx hb dL_share_373 hl (k := 1) rfl (dn_next hj6) (by decide) rfl (fun ls hl => ?_)
                          refine lv_goto (tgt := 333) hx hb dL_share_376 (by decide) ?_
                          exact ih_333 (j + 1, nI (5 - j)) (by show (6 - (j + 1)) < (6 - j); omega) _ _ _ ⟨(show (j + 1) ≤ 6 from by omega), (show (nI (5 - j)) = itr (j + 1) (lbStep q2 l2) (-1) from by show _ = lbStep q2 l2 j (itr j _ _); rw [← he3]; first | (simp [lbStep, c_26, c_42, c_62, c_96, c_199, c_294, c_305, c_314, c_321, c_335, c_343, c_348]; done) | (simp [lbStep, c_26, c_42, c_62, c_96, c_199, c_294, c_305, c_314, c_321, c_335, c_343, c_348, exb, hbc, hb0]; done)), (show (nI (5 - j)) = -1 ∨ ∃ b, b < 6 ∧ (nI (5 - j)) = nI b from by first | exact hxb | exact Or.inr ⟨5 - j, by omega, rfl⟩), hP, hD, hS, lv_sub hl [0, 1, 2, 3, 4, 5, 6, 7, 8, 9, 10, 11, 12, 13] rfl⟩
                        · obtain ⟨bb, hbb, exb⟩ : ∃ b, b < 6 ∧ x = nI b := hxb.resolve_left (fun h9 => by rw [h9] at c_348; exact c_348 (by decide))
                          have hbc : (nI bb).toNatClampNeg = bb := nI_clamp (by omega)
                          have hb0 : ¬ nI bb < 0 := nI_pos (by omega)
                          refine lv_aload hx hb dL_share_351 (lv_at hl 7 rfl) ?_
                          refine lv_iload hx hb dL_share_353 (lv_at hl 0 rfl) ?_
                          refine r_ild (k := 5 - j) (n := 6) (f := l2) hx hb hK hP 5 0 rfl rfl (by omega) (by omega) rfl dL_share_355 ?_
                          refine lv_aload hx hb dL_share_356 (lv_at hl 7 rfl) ?_
                          refine lv_iload hx hb dL_share_358 (lv_at hl 1 rfl) ?_
                          refine top_i (x' := nI (bb)) (exb) ?_
                          refine r_ild (k := bb) (n := 6) (f := l2) hx hb hK hP 5 0 rfl rfl (by omega) (by omega) rfl dL_share_360 ?_
                          refine lv_icmp_gt (tgt := 369) hx hb dL_share_361 (by decide) (fun c_361 => ?_) (fun c_361 => ?_)
                          · refine lv_iload hx hb dL_share_369 (lv_at hl 1 rfl) ?_
                            refine lv_istore (lv' := [(12, .int (x)), (13, .int (nI (5 - j))), (11, .int (nI (i))), (10, .int (nI (9 - r))), (9, .int (nI (c2))), (8, .int (nI (hdN n M o (n % menN M)))), (7, .int (nI (n % menN M - (n % menN M)))), (6, .ref (a14)), (5, .ref (a8)), (4, .int (nI (menN M))), (0, .ref (ag)), (1, .ref (ap)), (2, .ref (aw)), (3, .ref (al))]) hx hb dL_share_371 hl (by decide) rfl (fun ls hl => ?_)
                            refine lv_iinc (v := dn (6 - (j + 1))) (lv' := [(13, .int (dn (6 - (j + 1)))), (12, .int (x)), (11, .int (nI (i))), (10, .int (nI (9 - r))), (9, .int (nI (c2))), (8, .int (nI (hdN n M o (n % menN M)))), (7, .int (nI (n % menN M - (n % menN M)))), (6, .ref (a14)), (5, .ref (a8)), (4, .int (nI (menN M))), (0, .ref (ag)), (1, .ref (ap)), (2, .ref (aw)), (3, .ref (al))]) hx hb dL_share_373 hl (k := 1) rfl (dn_next hj6) (by decide) rfl (fun ls hl => ?_)
                            refine lv_goto (tgt := 333) hx hb dL_share_376 (by decide) ?_
                            exact ih_333 (j + 1, x) (by show (6 - (j + 1)) < (6 - j); omega) _ _ _ ⟨(show (j + 1) ≤ 6 from by omega), (show x = itr (j + 1) (lbStep q2 l2) (-1) from by show _ = lbStep q2 l2 j (itr j _ _); rw [← he3]; first | (simp [lbStep, c_26, c_42, c_62, c_96, c_199, c_294, c_305, c_314, c_321, c_335, c_343, c_348, c_361]; done) | (simp [lbStep, c_26, c_42, c_62, c_96, c_199, c_294, c_305, c_314, c_321, c_335, c_343, c_348, c_361, exb, hbc, hb0]; done)), (show x = -1 ∨ ∃ b, b < 6 ∧ x = nI b from by first | exact hxb | exact Or.inr ⟨5 - j, by omega, rfl⟩), hP, hD, hS, lv_sub hl [0, 1, 2, 3, 4, 5, 6, 7, 8, 9, 10, 11, 12, 13] rfl⟩
                          · refine lv_iload hx hb dL_share_364 (lv_at hl 0 rfl) ?_
                            refine lv_goto (tgt := 371) hx hb dL_share_366 (by decide) ?_
                            refine lv_istore (lv' := [(12, .int (nI (5 - j))), (13, .int (nI (5 - j))), (11, .int (nI (i))), (10, .int (nI (9 - r))), (9, .int (nI (c2))), (8, .int (nI (hdN n M o (n % menN M)))), (7, .int (nI (n % menN M - (n % menN M)))), (6, .ref (a14)), (5, .ref (a8)), (4, .int (nI (menN M))), (0, .ref (ag)), (1, .ref (ap)), (2, .ref (aw)), (3, .ref (al))]) hx hb dL_share_371 hl (by decide) rfl (fun ls hl => ?_)
                            refine lv_iinc (v := dn (6 - (j + 1))) (lv' := [(13, .int (dn (6 - (j + 1)))), (12, .int (nI (5 - j))), (11, .int (nI (i))), (10, .int (nI (9 - r))), (9, .int (nI (c2))), (8, .int (nI (hdN n M o (n % menN M)))), (7, .int (nI (n % menN M - (n % menN M)))), (6, .ref (a14)), (5, .ref (a8)), (4, .int (nI (menN M))), (0, .ref (ag)), (1, .ref (ap)), (2, .ref (aw)), (3, .ref (al))]) hx hb dL_share_373 hl (k := 1) rfl (dn_next hj6) (by decide) rfl (fun ls hl => ?_)
                            refine lv_goto (tgt := 333) hx hb dL_share_376 (by decide) ?_
                            exact ih_333 (j + 1, nI (5 - j)) (by show (6 - (j + 1)) < (6 - j); omega) _ _ _ ⟨(show (j + 1) ≤ 6 from by omega), (show (nI (5 - j)) = itr (j + 1) (lbStep q2 l2) (-1) from by show _ = lbStep q2 l2 j (itr j _ _); rw [← he3]; first | (simp [lbStep, c_26, c_42, c_62, c_96, c_199, c_294, c_305, c_314, c_321, c_335, c_343, c_348, c_361]; done) | (simp [lbStep, c_26, c_42, c_62, c_96, c_199, c_294, c_305, c_314, c_321, c_335, c_343, c_348, c_361, exb, hbc, hb0]; done)), (show (nI (5 - j)) = -1 ∨ ∃ b, b < 6 ∧ (nI (5 - j)) = nI b from by first | exact hxb | exact Or.inr ⟨5 - j, by omega, rfl⟩), hP, hD, hS, lv_sub hl [0, 1, 2, 3, 4, 5, 6, 7, 8, 9, 10, 11, 12, 13] rfl⟩
                  · refine lv_goto (tgt := 407) hx hb dL_share_324 (by decide) ?_
                    refine lv_iinc (v := nI (i + 1)) (lv' := [(11, .int (nI (i + 1))), (10, .int (nI (9 - r))), (9, .int (nI (c2))), (8, .int (nI (hdN n M o (n % menN M)))), (7, .int (nI (n % menN M - (n % menN M)))), (6, .ref (a14)), (5, .ref (a8)), (4, .int (nI (menN M))), (0, .ref (ag)), (1, .ref (ap)), (2, .ref (aw)), (3, .ref (al))]) hx hb dL_share_407 hl (k := 0) rfl (nI_add _ _) (by decide) rfl (fun ls hl => ?_)
                    refine lv_goto (tgt := 300) hx hb dL_share_410 (by decide) ?_
                    exact ih_300 (i + 1, f2, q2, l2, c2) (by show (n - (i + 1)) < (n - i); omega) _ _ _ ⟨(show (i + 1) ≤ n from by omega), (show (f2, q2, l2, c2) = itr (i + 1) (gvStep p (nI (9 - r))) (f1, q1, l1, ch) from by show _ = gvStep p (nI (9 - r)) i (itr i _ _); rw [← he2]; first | (simp [gvStep, c_26, c_42, c_62, c_96, c_199, c_294, c_305, c_314, c_321]; done) | (simp [gvStep, gvOne, c_26, c_42, c_62, c_96, c_199, c_294, c_305, c_314, c_321, eb2, hbk]; done)), hP, hD, hS, lv_sub hl [0, 1, 2, 3, 4, 5, 6, 7, 8, 9, 10, 11] rfl⟩
          · have c_199 : ¬ (9 - r) ≤ (0) := fun h9 => c_199 ((nI_leI (a := 9 - r) (b := 0) (by omega) (by omega)).mpr h9)
            refine lv_iconst (v := (0 : Int32)) hx hb dL_share_202 (by decide) ?_
            refine lv_istore (lv' := [(10, .int ((0 : Int32))), (9, .int (nI (9 - r))), (8, .int (nI (hdN n M o (n % menN M)))), (7, .int (nI (n % menN M - (n % menN M)))), (6, .ref (a14)), (5, .ref (a8)), (4, .int (nI (menN M))), (0, .ref (ag)), (1, .ref (ap)), (2, .ref (aw)), (3, .ref (al))]) hx hb dL_share_203 hl (by decide) rfl (fun ls hl => ?_)
            refine W_loop (α := Nat × (Nat → Int32) × (Nat → Int32) × (Nat → Int32)) (I := fun a9 H locs ls => (a9.1 ≤ n) ∧ ((a9.2.1, a9.2.2.1, a9.2.2.2) = itr a9.1 (kpStep p o (nI (9 - r))) (f1, q1, l1)) ∧ va_P G vwCl (cat [[(ag, .inl (cyI, 6, .inl (g)))], [(ap, .inl (cyI, 20, .inl (p)))], [(aw, .inl (cyI, 20, .inl (o)))], [(al, .inl (cyI, 20, .inl (a9.2.1)))], [(a8, .inl (cyI, 6, .inl (a9.2.2.1)))], [(a14, .inl (cyI, 6, .inl (a9.2.2.2)))]]) H ∧ va_D A9 (cat [[(ag, .inl (cyI, 6, .inl (g)))], [(ap, .inl (cyI, 20, .inl (p)))], [(aw, .inl (cyI, 20, .inl (o)))], [(al, .inl (cyI, 20, .inl (a9.2.1)))], [(a8, .inl (cyI, 6, .inl (a9.2.2.1)))], [(a14, .inl (cyI, 6, .inl (a9.2.2.2)))]]) ∧ va_S A9 s9.heap H locs ∧ lv_has ls 14 [(10, .int (nI (a9.1))), (9, .int (nI (9 - r))), (8, .int (nI (hdN n M o (n % menN M)))), (7, .int (nI (n % menN M - (n % menN M)))), (6, .ref (a14)), (5, .ref (a8)), (4, .int (nI (menN M))), (0, .ref (ag)), (1, .ref (ap)), (2, .ref (aw)), (3, .ref (al))]) (μ := fun a9 => n - a9.1) (st := fun a9 => []) ?_ (0, f1, q1, l1) _ _ _ ⟨(show 0 ≤ n from by omega), (show (f1, q1, l1) = itr 0 (kpStep p o (nI (9 - r))) (f1, q1, l1) from rfl), hP, hD, hS, lv_sub hl [0, 1, 2, 3, 4, 5, 6, 7, 8, 9, 10] rfl⟩
            intro a9 ih_205 H locs ls hI
            obtain ⟨i, f2, q2, l2⟩ := a9
            obtain ⟨hi9, he29, hP9, hD9, hS9, hl9⟩ := hI
            have hi : i ≤ n := hi9
            have he2 : (f2, q2, l2) = itr i (kpStep p o (nI (9 - r))) (f1, q1, l1) := he29
            have hP : va_P G vwCl (cat [[(ag, .inl (cyI, 6, .inl (g)))], [(ap, .inl (cyI, 20, .inl (p)))], [(aw, .inl (cyI, 20, .inl (o)))], [(al, .inl (cyI, 20, .inl (f2)))], [(a8, .inl (cyI, 6, .inl (q2)))], [(a14, .inl (cyI, 6, .inl (l2)))]]) H := hP9
            have hD : va_D A9 (cat [[(ag, .inl (cyI, 6, .inl (g)))], [(ap, .inl (cyI, 20, .inl (p)))], [(aw, .inl (cyI, 20, .inl (o)))], [(al, .inl (cyI, 20, .inl (f2)))], [(a8, .inl (cyI, 6, .inl (q2)))], [(a14, .inl (cyI, 6, .inl (l2)))]]) := hD9
            have hS := hS9
            have hl : lv_has ls 14 [(10, .int (nI (i))), (9, .int (nI (9 - r))), (8, .int (nI (hdN n M o (n % menN M)))), (7, .int (nI (n % menN M - (n % menN M)))), (6, .ref (a14)), (5, .ref (a8)), (4, .int (nI (menN M))), (0, .ref (ag)), (1, .ref (ap)), (2, .ref (aw)), (3, .ref (al))] := hl9
            clear hi9 he29 hP9 hD9 hS9 hl9
            refine lv_iload hx hb dL_share_205 (lv_at hl 0 rfl) ?_
            refine lv_aload_n hx hb dL_share_207 rfl (lv_at hl 7 rfl) ?_
            refine lv_iconst (v := (0 : Int32)) hx hb dL_share_208 (by decide) ?_
            refine r_ild (k := 0) (n := 6) (f := g) hx hb hK hP 0 0 rfl rfl (by omega) (by omega) rfl dL_share_209 ?_
            refine top_i (x' := nI (n)) (h0) ?_
            refine lv_icmp_ge (tgt := 279) hx hb dL_share_210 (by decide) (fun c_210 => ?_) (fun c_210 => ?_)
            · have c_210 : (n) ≤ (i) := (nI_leI (a := n) (b := i) (by omega) (by omega)).mp c_210
              obtain rfl : n = i := by omega
              refine lv_iinc (v := nI (9 - (r + 1))) (lv' := [(9, .int (nI (9 - (r + 1)))), (10, .int (nI (n))), (8, .int (nI (hdN n M o (n % menN M)))), (7, .int (nI (n % menN M - (n % menN M)))), (6, .ref (a14)), (5, .ref (a8)), (4, .int (nI (menN M))), (0, .ref (ag)), (1, .ref (ap)), (2, .ref (aw)), (3, .ref (al))]) hx hb dL_share_279 hl (k := 1) rfl (by rw [show 9 - r = (9 - (r + 1)) + 1 by omega]; exact pk_m1 _) (by decide) rfl (fun ls hl => ?_)
              refine lv_goto (tgt := 197) hx hb dL_share_282 (by decide) ?_
              exact ih_197 (r + 1, f2, q2, l2) (by show (9 - (r + 1)) < (9 - r); omega) _ _ _ ⟨(show (r + 1) ≤ 9 from by omega), (show (f2, q2, l2) = itr (r + 1) (kpOut n p o) (fillM n gl, qT n M o (n % menN M), fun _ => 0) from by show _ = kpOut n p o r (itr r _ _); rw [← he, he2]; rfl), hP, hD, hS, lv_sub hl [0, 2, 3, 4, 5, 6, 7, 8, 9, 10] rfl⟩
            · have c_210 : ¬ (n) ≤ (i) := fun h9 => c_210 ((nI_leI (a := n) (b := i) (by omega) (by omega)).mpr h9)
              refine lv_aload_n hx hb dL_share_213 rfl (lv_at hl 8 rfl) ?_
              refine lv_iload hx hb dL_share_214 (lv_at hl 0 rfl) ?_
              refine r_ild (k := i) (n := 20) (f := p) hx hb hK hP 1 0 rfl rfl (by omega) (by omega) rfl dL_share_216 ?_
              refine lv_iload hx hb dL_share_217 (lv_at hl 1 rfl) ?_
              refine lv_icmp_ne (tgt := 273) hx hb dL_share_219 (by decide) (fun c_219 => ?_) (fun c_219 => ?_)
              · refine lv_iinc (v := nI (i + 1)) (lv' := [(10, .int (nI (i + 1))), (9, .int (nI (9 - r))), (8, .int (nI (hdN n M o (n % menN M)))), (7, .int (nI (n % menN M - (n % menN M)))), (6, .ref (a14)), (5, .ref (a8)), (4, .int (nI (menN M))), (0, .ref (ag)), (1, .ref (ap)), (2, .ref (aw)), (3, .ref (al))]) hx hb dL_share_273 hl (k := 0) rfl (nI_add _ _) (by decide) rfl (fun ls hl => ?_)
                refine lv_goto (tgt := 205) hx hb dL_share_276 (by decide) ?_
                exact ih_205 (i + 1, f2, q2, l2) (by show (n - (i + 1)) < (n - i); omega) _ _ _ ⟨(show (i + 1) ≤ n from by omega), (show (f2, q2, l2) = itr (i + 1) (kpStep p o (nI (9 - r))) (f1, q1, l1) from by show _ = kpStep p o (nI (9 - r)) i (itr i _ _); rw [← he2]; first | (simp [kpStep, c_26, c_42, c_62, c_96, c_199, c_210, c_219]; done) | (simp [kpStep, c_26, c_42, c_62, c_96, c_199, c_210, c_219, ek, hk0, hkc]; done)), hP, hD, hS, lv_sub hl [0, 1, 2, 3, 4, 5, 6, 7, 8, 9, 10] rfl⟩
              · refine lv_aload_n hx hb dL_share_222 rfl (lv_at hl 9 rfl) ?_
                refine lv_iload hx hb dL_share_223 (lv_at hl 0 rfl) ?_
                refine r_ild (k := i) (n := 20) (f := o) hx hb hK hP 2 0 rfl rfl (by omega) (by omega) rfl dL_share_225 ?_
                refine lv_if_lt (tgt := 273) hx hb dL_share_226 (by decide) (fun c_226 => ?_) (fun c_226 => ?_)
                · refine lv_iinc (v := nI (i + 1)) (lv' := [(10, .int (nI (i + 1))), (9, .int (nI (9 - r))), (8, .int (nI (hdN n M o (n % menN M)))), (7, .int (nI (n % menN M - (n % menN M)))), (6, .ref (a14)), (5, .ref (a8)), (4, .int (nI (menN M))), (0, .ref (ag)), (1, .ref (ap)), (2, .ref (aw)), (3, .ref (al))]) hx hb dL_share_273 hl (k := 0) rfl (nI_add _ _) (by decide) rfl (fun ls hl => ?_)
                  refine lv_goto (tgt := 205) hx hb dL_share_276 (by decide) ?_
                  exact ih_205 (i + 1, f2, q2, l2) (by show (n - (i + 1)) < (n - i); omega) _ _ _ ⟨(show (i + 1) ≤ n from by omega), (show (f2, q2, l2) = itr (i + 1) (kpStep p o (nI (9 - r))) (f1, q1, l1) from by show _ = kpStep p o (nI (9 - r)) i (itr i _ _); rw [← he2]; first | (simp [kpStep, c_26, c_42, c_62, c_96, c_199, c_210, c_219, c_226]; done) | (simp [kpStep, c_26, c_42, c_62, c_96, c_199, c_210, c_219, c_226, ek, hk0, hkc]; done)), hP, hD, hS, lv_sub hl [0, 1, 2, 3, 4, 5, 6, 7, 8, 9, 10] rfl⟩
                · obtain ⟨k, hk6, ek⟩ : ∃ k, k < 6 ∧ o i = nI k := (hL.2.2.2 i (by omega)).resolve_left (fun h9 => by rw [h9] at c_226; exact c_226 (by decide))
                  have hk0 : ¬ nI k < 0 := nI_pos (by omega)
                  have hkc : (nI k).toNatClampNeg = k := nI_clamp (by omega)
                  refine lv_aload hx hb dL_share_229 (lv_at hl 5 rfl) ?_
                  refine lv_aload_n hx hb dL_share_231 rfl (lv_at hl 9 rfl) ?_
                  refine lv_iload hx hb dL_share_232 (lv_at hl 0 rfl) ?_
                  refine r_ild (k := i) (n := 20) (f := o) hx hb hK hP 2 0 rfl rfl (by omega) (by omega) rfl dL_share_234 ?_
                  refine top_i (x' := nI (k)) (ek) ?_
                  refine r_ild (k := k) (n := 6) (f := q2) hx hb hK hP 4 0 rfl rfl (by omega) (by omega) rfl dL_share_235 ?_
                  refine lv_if_ne (tgt := 242) hx hb dL_share_236 (by decide) (fun c_236 => ?_) (fun c_236 => ?_)
                  · refine lv_aload_n hx hb dL_share_242 rfl (lv_at hl 10 rfl) ?_
                    refine lv_iload hx hb dL_share_243 (lv_at hl 0 rfl) ?_
                    refine lv_aload_n hx hb dL_share_245 rfl (lv_at hl 9 rfl) ?_
                    refine lv_iload hx hb dL_share_246 (lv_at hl 0 rfl) ?_
                    refine r_ild (k := i) (n := 20) (f := o) hx hb hK hP 2 0 rfl rfl (by omega) (by omega) rfl dL_share_248 ?_
                    refine top_i (x' := nI (k)) (ek) ?_
                    refine r_ist (k := i) (n := 20) (f := f2) hx hb hK hP hD hS 3 0 rfl rfl (by omega) (by omega) rfl dL_share_249 (fun H locs hP hD hS => ?_)
                    have hP : va_P G vwCl (cat [[(ag, .inl (cyI, 6, .inl (g)))], [(ap, .inl (cyI, 20, .inl (p)))], [(aw, .inl (cyI, 20, .inl (o)))], [(al, .inl (cyI, 20, .inl (upd f2 i (nI (k)))))], [(a8, .inl (cyI, 6, .inl (q2)))], [(a14, .inl (cyI, 6, .inl (l2)))]]) H := hP
                    have hD : va_D A9 (cat [[(ag, .inl (cyI, 6, .inl (g)))], [(ap, .inl (cyI, 20, .inl (p)))], [(aw, .inl (cyI, 20, .inl (o)))], [(al, .inl (cyI, 20, .inl (upd f2 i (nI (k)))))], [(a8, .inl (cyI, 6, .inl (q2)))], [(a14, .inl (cyI, 6, .inl (l2)))]]) := hD
                    refine lv_aload hx hb dL_share_250 (lv_at hl 5 rfl) ?_
                    refine lv_aload_n hx hb dL_share_252 rfl (lv_at hl 9 rfl) ?_
                    refine lv_iload hx hb dL_share_253 (lv_at hl 0 rfl) ?_
                    refine r_ild (k := i) (n := 20) (f := o) hx hb hK hP 2 0 rfl rfl (by omega) (by omega) rfl dL_share_255 ?_
                    refine top_i (x' := nI (k)) (ek) ?_
                    refine lv_dup2_11 hx hb dL_share_256 rfl rfl ?_
                    refine r_ild (k := k) (n := 6) (f := q2) hx hb hK hP 4 0 rfl rfl (by omega) (by omega) rfl dL_share_257 ?_
                    refine lv_iconst (v := (1 : Int32)) hx hb dL_share_258 (by decide) ?_
                    refine lv_isub hx hb dL_share_259 ?_
                    refine r_ist (k := k) (n := 6) (f := q2) hx hb hK hP hD hS 4 0 rfl rfl (by omega) (by omega) rfl dL_share_260 (fun H locs hP hD hS => ?_)
                    have hP : va_P G vwCl (cat [[(ag, .inl (cyI, 6, .inl (g)))], [(ap, .inl (cyI, 20, .inl (p)))], [(aw, .inl (cyI, 20, .inl (o)))], [(al, .inl (cyI, 20, .inl (upd f2 i (nI (k)))))], [(a8, .inl (cyI, 6, .inl (upd q2 k ((q2 k) - ((1 : Int32))))))], [(a14, .inl (cyI, 6, .inl (l2)))]]) H := hP
                    have hD : va_D A9 (cat [[(ag, .inl (cyI, 6, .inl (g)))], [(ap, .inl (cyI, 20, .inl (p)))], [(aw, .inl (cyI, 20, .inl (o)))], [(al, .inl (cyI, 20, .inl (upd f2 i (nI (k)))))], [(a8, .inl (cyI, 6, .inl (upd q2 k ((q2 k) - ((1 : Int32))))))], [(a14, .inl (cyI, 6, .inl (l2)))]]) := hD
                    refine lv_aload hx hb dL_share_261 (lv_at hl 4 rfl) ?_
                    refine lv_aload_n hx hb dL_share_263 rfl (lv_at hl 9 rfl) ?_
                    refine lv_iload hx hb dL_share_264 (lv_at hl 0 rfl) ?_
                    refine r_ild (k := i) (n := 20) (f := o) hx hb hK hP 2 0 rfl rfl (by omega) (by omega) rfl dL_share_266 ?_
                    refine top_i (x' := nI (k)) (ek) ?_
                    refine lv_dup2_11 hx hb dL_share_267 rfl rfl ?_
                    refine r_ild (k := k) (n := 6) (f := l2) hx hb hK hP 5 0 rfl rfl (by omega) (by omega) rfl dL_share_268 ?_
                    refine lv_iload hx hb dL_share_269 (lv_at hl 1 rfl) ?_
                    refine lv_iadd hx hb dL_share_271 ?_
                    refine r_ist (k := k) (n := 6) (f := l2) hx hb hK hP hD hS 5 0 rfl rfl (by omega) (by omega) rfl dL_share_272 (fun H locs hP hD hS => ?_)
                    have hP : va_P G vwCl (cat [[(ag, .inl (cyI, 6, .inl (g)))], [(ap, .inl (cyI, 20, .inl (p)))], [(aw, .inl (cyI, 20, .inl (o)))], [(al, .inl (cyI, 20, .inl (upd f2 i (nI (k)))))], [(a8, .inl (cyI, 6, .inl (upd q2 k ((q2 k) - ((1 : Int32))))))], [(a14, .inl (cyI, 6, .inl (upd l2 k ((l2 k) + (nI (9 - r))))))]]) H := hP
                    have hD : va_D A9 (cat [[(ag, .inl (cyI, 6, .inl (g)))], [(ap, .inl (cyI, 20, .inl (p)))], [(aw, .inl (cyI, 20, .inl (o)))], [(al, .inl (cyI, 20, .inl (upd f2 i (nI (k)))))], [(a8, .inl (cyI, 6, .inl (upd q2 k ((q2 k) - ((1 : Int32))))))], [(a14, .inl (cyI, 6, .inl (upd l2 k ((l2 k) + (nI (9 - r))))))]]) := hD
                    refine lv_iinc (v := nI (i + 1)) (lv' := [(10, .int (nI (i + 1))), (9, .int (nI (9 - r))), (8, .int (nI (hdN n M o (n % menN M)))), (7, .int (nI (n % menN M - (n % menN M)))), (6, .ref (a14)), (5, .ref (a8)), (4, .int (nI (menN M))), (0, .ref (ag)), (1, .ref (ap)), (2, .ref (aw)), (3, .ref (al))]) hx hb dL_share_273 hl (k := 0) rfl (nI_add _ _) (by decide) rfl (fun ls hl => ?_)
                    refine lv_goto (tgt := 205) hx hb dL_share_276 (by decide) ?_
                    exact ih_205 (i + 1, upd f2 i (nI (k)), upd q2 k ((q2 k) - ((1 : Int32))), upd l2 k ((l2 k) + (nI (9 - r)))) (by show (n - (i + 1)) < (n - i); omega) _ _ _ ⟨(show (i + 1) ≤ n from by omega), (show ((upd f2 i (nI (k))), (upd q2 k ((q2 k) - ((1 : Int32)))), (upd l2 k ((l2 k) + (nI (9 - r))))) = itr (i + 1) (kpStep p o (nI (9 - r))) (f1, q1, l1) from by show _ = kpStep p o (nI (9 - r)) i (itr i _ _); rw [← he2]; first | (simp [kpStep, c_26, c_42, c_62, c_96, c_199, c_210, c_219, c_226, c_236]; done) | (simp [kpStep, c_26, c_42, c_62, c_96, c_199, c_210, c_219, c_226, c_236, ek, hk0, hkc]; done)), hP, hD, hS, lv_sub hl [0, 1, 2, 3, 4, 5, 6, 7, 8, 9, 10] rfl⟩
                  · refine lv_goto (tgt := 273) hx hb dL_share_239 (by decide) ?_
                    refine lv_iinc (v := nI (i + 1)) (lv' := [(10, .int (nI (i + 1))), (9, .int (nI (9 - r))), (8, .int (nI (hdN n M o (n % menN M)))), (7, .int (nI (n % menN M - (n % menN M)))), (6, .ref (a14)), (5, .ref (a8)), (4, .int (nI (menN M))), (0, .ref (ag)), (1, .ref (ap)), (2, .ref (aw)), (3, .ref (al))]) hx hb dL_share_273 hl (k := 0) rfl (nI_add _ _) (by decide) rfl (fun ls hl => ?_)
                    refine lv_goto (tgt := 205) hx hb dL_share_276 (by decide) ?_
                    exact ih_205 (i + 1, f2, q2, l2) (by show (n - (i + 1)) < (n - i); omega) _ _ _ ⟨(show (i + 1) ≤ n from by omega), (show (f2, q2, l2) = itr (i + 1) (kpStep p o (nI (9 - r))) (f1, q1, l1) from by show _ = kpStep p o (nI (9 - r)) i (itr i _ _); rw [← he2]; first | (simp [kpStep, c_26, c_42, c_62, c_96, c_199, c_210, c_219, c_226, c_236]; done) | (simp [kpStep, c_26, c_42, c_62, c_96, c_199, c_210, c_219, c_226, c_236, ek, hk0, hkc]; done)), hP, hD, hS, lv_sub hl [0, 1, 2, 3, 4, 5, 6, 7, 8, 9, 10] rfl⟩
        · have c_96 : ¬ (n % menN M - t) ≤ (0) := fun h9 => c_96 ((nI_leI (a := n % menN M - t) (b := 0) (by omega) (by omega)).mpr h9)
          have ht2 : t < n % menN M := by omega
          have hcl : n % menN M < menN M := Nat.mod_lt _ (by omega)
          refine lv_iconst (v := (-1 : Int32)) hx hb dL_share_99 (by decide) ?_
          refine lv_istore (lv' := [(9, .int ((-1 : Int32))), (8, .int (nI (hdN n M o t))), (7, .int (nI (n % menN M - t))), (6, .ref (a14)), (5, .ref (a8)), (4, .int (nI (menN M))), (0, .ref (ag)), (1, .ref (ap)), (2, .ref (aw)), (3, .ref (al))]) hx hb dL_share_100 hl (by decide) rfl (fun ls hl => ?_)
          refine lv_iconst (v := (5 : Int32)) hx hb dL_share_102 (by decide) ?_
          refine lv_istore (lv' := [(10, .int ((5 : Int32))), (9, .int ((-1 : Int32))), (8, .int (nI (hdN n M o t))), (7, .int (nI (n % menN M - t))), (6, .ref (a14)), (5, .ref (a8)), (4, .int (nI (menN M))), (0, .ref (ag)), (1, .ref (ap)), (2, .ref (aw)), (3, .ref (al))]) hx hb dL_share_103 hl (by decide) rfl (fun ls hl => ?_)
          rw [show (5 : Int32) = dn (6 - 0) by decide +kernel] at hl
          refine W_loop (α := Nat × Int32) (I := fun a9 H locs ls => (a9.1 ≤ 6) ∧ (a9.2 = itr a9.1 (bsStep n M (hdN n M o t) o) (-1)) ∧ va_P G vwCl (cat [[(ag, .inl (cyI, 6, .inl (g)))], [(ap, .inl (cyI, 20, .inl (p)))], [(aw, .inl (cyI, 20, .inl (o)))], [(al, .inl (cyI, 20, .inl (fillM n gl)))], [(a8, .inl (cyI, 6, .inl (qT n M o t)))], [(a14, .inl (cyI, 6, .inl (fun _ => 0)))]]) H ∧ va_D A9 (cat [[(ag, .inl (cyI, 6, .inl (g)))], [(ap, .inl (cyI, 20, .inl (p)))], [(aw, .inl (cyI, 20, .inl (o)))], [(al, .inl (cyI, 20, .inl (fillM n gl)))], [(a8, .inl (cyI, 6, .inl (qT n M o t)))], [(a14, .inl (cyI, 6, .inl (fun _ => 0)))]]) ∧ va_S A9 s9.heap H locs ∧ lv_has ls 14 [(10, .int (dn (6 - a9.1))), (9, .int (a9.2)), (8, .int (nI (hdN n M o t))), (7, .int (nI (n % menN M - t))), (6, .ref (a14)), (5, .ref (a8)), (4, .int (nI (menN M))), (0, .ref (ag)), (1, .ref (ap)), (2, .ref (aw)), (3, .ref (al))]) (μ := fun a9 => 6 - a9.1) (st := fun a9 => []) ?_ (0, -1) _ _ _ ⟨(show 0 ≤ 6 from by omega), (show (-1) = itr 0 (bsStep n M (hdN n M o t) o) (-1) from rfl), hP, hD, hS, lv_sub hl [0, 1, 2, 3, 4, 5, 6, 7, 8, 9, 10] rfl⟩
          intro a9 ih_105 H locs ls hI
          obtain ⟨i, x⟩ := a9
          obtain ⟨hi9, he9, hP9, hD9, hS9, hl9⟩ := hI
          have hi : i ≤ 6 := hi9
          have he : x = itr i (bsStep n M (hdN n M o t) o) (-1) := he9
          have hP : va_P G vwCl (cat [[(ag, .inl (cyI, 6, .inl (g)))], [(ap, .inl (cyI, 20, .inl (p)))], [(aw, .inl (cyI, 20, .inl (o)))], [(al, .inl (cyI, 20, .inl (fillM n gl)))], [(a8, .inl (cyI, 6, .inl (qT n M o t)))], [(a14, .inl (cyI, 6, .inl (fun _ => 0)))]]) H := hP9
          have hD : va_D A9 (cat [[(ag, .inl (cyI, 6, .inl (g)))], [(ap, .inl (cyI, 20, .inl (p)))], [(aw, .inl (cyI, 20, .inl (o)))], [(al, .inl (cyI, 20, .inl (fillM n gl)))], [(a8, .inl (cyI, 6, .inl (qT n M o t)))], [(a14, .inl (cyI, 6, .inl (fun _ => 0)))]]) := hD9
          have hS := hS9
          have hl : lv_has ls 14 [(10, .int (dn (6 - i))), (9, .int (x)), (8, .int (nI (hdN n M o t))), (7, .int (nI (n % menN M - t))), (6, .ref (a14)), (5, .ref (a8)), (4, .int (nI (menN M))), (0, .ref (ag)), (1, .ref (ap)), (2, .ref (aw)), (3, .ref (al))] := hl9
          clear hi9 he9 hP9 hD9 hS9 hl9
          refine lv_iload hx hb dL_share_105 (lv_at hl 0 rfl) ?_
          refine lv_if_lt (tgt := 169) hx hb dL_share_107 (by decide) (fun c_107 => ?_) (fun c_107 => ?_)
          · obtain rfl : 6 = i := dn_end hi c_107
            obtain ⟨b, hb6, eb1, eb2, eb3⟩ := more_step (n := n) (M := M) (t := t) (o := o) hM (Nat.lt_trans ht2 hcl)
            have ex : x = nI b := he.trans eb1
            rw [ex] at hl
            have hl : lv_has ls 14 [(10, .int (dn (6 - 6))), (9, .int (nI (b))), (8, .int (nI (hdN n M o t))), (7, .int (nI (n % menN M - t))), (6, .ref (a14)), (5, .ref (a8)), (4, .int (nI (menN M))), (0, .ref (ag)), (1, .ref (ap)), (2, .ref (aw)), (3, .ref (al))] := hl
            refine lv_iload hx hb dL_share_169 (lv_at hl 2 rfl) ?_
            refine lv_iconst (v := (1 : Int32)) hx hb dL_share_171 (by decide) ?_
            refine lv_iload hx hb dL_share_172 (lv_at hl 1 rfl) ?_
            refine lv_ishl hx hb dL_share_174 ?_
            refine lv_ior hx hb dL_share_175 ?_
            refine top_i (x' := nI ((hdN n M o t) ||| 2 ^ b)) (or_all (hdN n M o t) (hd_lt _ _ _ _) b (by omega)) ?_
            refine top_i (x' := nI (hdN n M o (t + 1))) (congrArg nI eb2) ?_
            refine lv_istore (lv' := [(8, .int (nI (hdN n M o (t + 1)))), (10, .int (dn (6 - 6))), (9, .int (nI (b))), (7, .int (nI (n % menN M - t))), (6, .ref (a14)), (5, .ref (a8)), (4, .int (nI (menN M))), (0, .ref (ag)), (1, .ref (ap)), (2, .ref (aw)), (3, .ref (al))]) hx hb dL_share_176 hl (by decide) rfl (fun ls hl => ?_)
            refine lv_aload hx hb dL_share_178 (lv_at hl 5 rfl) ?_
            refine lv_iload hx hb dL_share_180 (lv_at hl 2 rfl) ?_
            refine lv_dup2_11 hx hb dL_share_182 rfl rfl ?_
            refine r_ild (k := b) (n := 6) (f := qT n M o t) hx hb hK hP 4 0 rfl rfl (by omega) (by omega) rfl dL_share_183 ?_
            refine lv_iconst (v := (1 : Int32)) hx hb dL_share_184 (by decide) ?_
            refine lv_iadd hx hb dL_share_185 ?_
            refine r_ist (k := b) (n := 6) (f := qT n M o t) hx hb hK hP hD hS 4 0 rfl rfl (by omega) (by omega) rfl dL_share_186 (fun H locs hP hD hS => ?_)
            have hP : va_P G vwCl (cat [[(ag, .inl (cyI, 6, .inl (g)))], [(ap, .inl (cyI, 20, .inl (p)))], [(aw, .inl (cyI, 20, .inl (o)))], [(al, .inl (cyI, 20, .inl (fillM n gl)))], [(a8, .inl (cyI, 6, .inl (upd (qT n M o t) b (((qT n M o t) b) + ((1 : Int32))))))], [(a14, .inl (cyI, 6, .inl (fun _ => 0)))]]) H := hP
            have hD : va_D A9 (cat [[(ag, .inl (cyI, 6, .inl (g)))], [(ap, .inl (cyI, 20, .inl (p)))], [(aw, .inl (cyI, 20, .inl (o)))], [(al, .inl (cyI, 20, .inl (fillM n gl)))], [(a8, .inl (cyI, 6, .inl (upd (qT n M o t) b (((qT n M o t) b) + ((1 : Int32))))))], [(a14, .inl (cyI, 6, .inl (fun _ => 0)))]]) := hD
            rw [show upd (qT n M o t) b (((qT n M o t) b) + ((1 : Int32))) = qT n M o (t + 1) from eb3] at hP hD
            have hP : va_P G vwCl (cat [[(ag, .inl (cyI, 6, .inl (g)))], [(ap, .inl (cyI, 20, .inl (p)))], [(aw, .inl (cyI, 20, .inl (o)))], [(al, .inl (cyI, 20, .inl (fillM n gl)))], [(a8, .inl (cyI, 6, .inl (qT n M o (t + 1))))], [(a14, .inl (cyI, 6, .inl (fun _ => 0)))]]) H := hP
            have hD : va_D A9 (cat [[(ag, .inl (cyI, 6, .inl (g)))], [(ap, .inl (cyI, 20, .inl (p)))], [(aw, .inl (cyI, 20, .inl (o)))], [(al, .inl (cyI, 20, .inl (fillM n gl)))], [(a8, .inl (cyI, 6, .inl (qT n M o (t + 1))))], [(a14, .inl (cyI, 6, .inl (fun _ => 0)))]]) := hD
            refine lv_iinc (v := nI (n % menN M - (t + 1))) (lv' := [(7, .int (nI (n % menN M - (t + 1)))), (8, .int (nI (hdN n M o (t + 1)))), (10, .int (dn (6 - 6))), (9, .int (nI (b))), (6, .ref (a14)), (5, .ref (a8)), (4, .int (nI (menN M))), (0, .ref (ag)), (1, .ref (ap)), (2, .ref (aw)), (3, .ref (al))]) hx hb dL_share_187 hl (k := 3) rfl (by rw [show n % menN M - t = (n % menN M - (t + 1)) + 1 by omega]; exact pk_m1 _) (by decide) rfl (fun ls hl => ?_)
            refine lv_goto (tgt := 94) hx hb dL_share_190 (by decide) ?_
            exact ih_94 (t + 1) (by show (n % menN M - (t + 1)) < (n % menN M - t); omega) _ _ _ ⟨(show (t + 1) ≤ n % menN M from by omega), hP, hD, hS, lv_sub hl [1, 0, 4, 5, 6, 7, 8, 9, 10] rfl⟩
          · obtain ⟨hi6, ed⟩ := dn_lt hi c_107
            have hbt1 := bt_le M (5 - i)
            have hbt2 := bt_le (hdN n M o t) (5 - i)
            have hz1 := rSz_le o n (nI (5 - i))
            have hz2 := rSz_le o n x
            rw [ed] at hl
            have hl : lv_has ls 14 [(10, .int (nI (5 - i))), (9, .int (x)), (8, .int (nI (hdN n M o t))), (7, .int (nI (n % menN M - t))), (6, .ref (a14)), (5, .ref (a8)), (4, .int (nI (menN M))), (0, .ref (ag)), (1, .ref (ap)), (2, .ref (aw)), (3, .ref (al))] := hl
            refine lv_aload_n hx hb dL_share_110 rfl (lv_at hl 7 rfl) ?_
            refine lv_iconst (v := (5 : Int32)) hx hb dL_share_111 (by decide) ?_
            refine r_ild (k := 5) (n := 6) (f := g) hx hb hK hP 0 0 rfl rfl (by omega) (by omega) rfl dL_share_112 ?_
            refine top_i (x' := nI (M)) (h5) ?_
            refine lv_iload hx hb dL_share_113 (lv_at hl 0 rfl) ?_
            refine lv_ishr hx hb dL_share_115 ?_
            refine lv_iconst (v := (1 : Int32)) hx hb dL_share_116 (by decide) ?_
            refine lv_iand hx hb dL_share_117 ?_
            refine top_i (x' := nI (bt M (5 - i))) (bt_all M (by omega) (5 - i) (by omega)) ?_
            refine lv_iconst (v := (1 : Int32)) hx hb dL_share_118 (by decide) ?_
            refine lv_icmp_ne (tgt := 159) hx hb dL_share_119 (by decide) (fun c_119 => ?_) (fun c_119 => ?_)
            · have c_119 : ¬ (bt M (5 - i)) = (1) := fun h9 => c_119 ((nI_eq (a := bt M (5 - i)) (b := 1) (by omega) (by omega)).mpr h9)
              refine lv_iload hx hb dL_share_159 (lv_at hl 1 rfl) ?_
              refine lv_istore (lv' := [(9, .int (x)), (10, .int (nI (5 - i))), (8, .int (nI (hdN n M o t))), (7, .int (nI (n % menN M - t))), (6, .ref (a14)), (5, .ref (a8)), (4, .int (nI (menN M))), (0, .ref (ag)), (1, .ref (ap)), (2, .ref (aw)), (3, .ref (al))]) hx hb dL_share_161 hl (by decide) rfl (fun ls hl => ?_)
              refine lv_iinc (v := dn (6 - (i + 1))) (lv' := [(10, .int (dn (6 - (i + 1)))), (9, .int (x)), (8, .int (nI (hdN n M o t))), (7, .int (nI (n % menN M - t))), (6, .ref (a14)), (5, .ref (a8)), (4, .int (nI (menN M))), (0, .ref (ag)), (1, .ref (ap)), (2, .ref (aw)), (3, .ref (al))]) hx hb dL_share_163 hl (k := 1) rfl (dn_next hi6) (by decide) rfl (fun ls hl => ?_)
              refine lv_goto (tgt := 105) hx hb dL_share_166 (by decide) ?_
              exact ih_105 (i + 1, x) (by show (6 - (i + 1)) < (6 - i); omega) _ _ _ ⟨(show (i + 1) ≤ 6 from by omega), (show x = itr (i + 1) (bsStep n M (hdN n M o t) o) (-1) from by show _ = bsStep n M (hdN n M o t) o i (itr i _ _); rw [← he]; simp [bsStep, c_26, c_42, c_62, c_96, c_107, c_119]), hP, hD, hS, lv_sub hl [0, 1, 2, 3, 4, 5, 6, 7, 8, 9, 10] rfl⟩
            · have c_119 : (bt M (5 - i)) = (1) := (nI_eq (a := bt M (5 - i)) (b := 1) (by omega) (by omega)).mp c_119
              refine lv_iload hx hb dL_share_122 (lv_at hl 2 rfl) ?_
              refine lv_iload hx hb dL_share_124 (lv_at hl 0 rfl) ?_
              refine lv_ishr hx hb dL_share_126 ?_
              refine lv_iconst (v := (1 : Int32)) hx hb dL_share_127 (by decide) ?_
              refine lv_iand hx hb dL_share_128 ?_
              refine top_i (x' := nI (bt (hdN n M o t) (5 - i))) (bt_all (hdN n M o t) (hd_lt _ _ _ _) (5 - i) (by omega)) ?_
              refine lv_if_ne (tgt := 159) hx hb dL_share_129 (by decide) (fun c_129 => ?_) (fun c_129 => ?_)
              · have c_129 : ¬ (bt (hdN n M o t) (5 - i)) = (0) := fun h9 => c_129 ((nI_eq (a := bt (hdN n M o t) (5 - i)) (b := 0) (by omega) (by omega)).mpr h9)
                refine lv_iload hx hb dL_share_159 (lv_at hl 1 rfl) ?_
                refine lv_istore (lv' := [(9, .int (x)), (10, .int (nI (5 - i))), (8, .int (nI (hdN n M o t))), (7, .int (nI (n % menN M - t))), (6, .ref (a14)), (5, .ref (a8)), (4, .int (nI (menN M))), (0, .ref (ag)), (1, .ref (ap)), (2, .ref (aw)), (3, .ref (al))]) hx hb dL_share_161 hl (by decide) rfl (fun ls hl => ?_)
                refine lv_iinc (v := dn (6 - (i + 1))) (lv' := [(10, .int (dn (6 - (i + 1)))), (9, .int (x)), (8, .int (nI (hdN n M o t))), (7, .int (nI (n % menN M - t))), (6, .ref (a14)), (5, .ref (a8)), (4, .int (nI (menN M))), (0, .ref (ag)), (1, .ref (ap)), (2, .ref (aw)), (3, .ref (al))]) hx hb dL_share_163 hl (k := 1) rfl (dn_next hi6) (by decide) rfl (fun ls hl => ?_)
                refine lv_goto (tgt := 105) hx hb dL_share_166 (by decide) ?_
                exact ih_105 (i + 1, x) (by show (6 - (i + 1)) < (6 - i); omega) _ _ _ ⟨(show (i + 1) ≤ 6 from by omega), (show x = itr (i + 1) (bsStep n M (hdN n M o t) o) (-1) from by show _ = bsStep n M (hdN n M o t) o i (itr i _ _); rw [← he]; simp [bsStep, c_26, c_42, c_62, c_96, c_107, c_119, c_129]), hP, hD, hS, lv_sub hl [0, 1, 2, 3, 4, 5, 6, 7, 8, 9, 10] rfl⟩
              · have c_129 : (bt (hdN n M o t) (5 - i)) = (0) := (nI_eq (a := bt (hdN n M o t) (5 - i)) (b := 0) (by omega) (by omega)).mp c_129
                refine lv_iload hx hb dL_share_132 (lv_at hl 1 rfl) ?_
                refine lv_if_lt (tgt := 154) hx hb dL_share_134 (by decide) (fun c_134 => ?_) (fun c_134 => ?_)
                · refine lv_iload hx hb dL_share_154 (lv_at hl 0 rfl) ?_
                  refine lv_goto (tgt := 161) hx hb dL_share_156 (by decide) ?_
                  refine lv_istore (lv' := [(9, .int (nI (5 - i))), (10, .int (nI (5 - i))), (8, .int (nI (hdN n M o t))), (7, .int (nI (n % menN M - t))), (6, .ref (a14)), (5, .ref (a8)), (4, .int (nI (menN M))), (0, .ref (ag)), (1, .ref (ap)), (2, .ref (aw)), (3, .ref (al))]) hx hb dL_share_161 hl (by decide) rfl (fun ls hl => ?_)
                  refine lv_iinc (v := dn (6 - (i + 1))) (lv' := [(10, .int (dn (6 - (i + 1)))), (9, .int (nI (5 - i))), (8, .int (nI (hdN n M o t))), (7, .int (nI (n % menN M - t))), (6, .ref (a14)), (5, .ref (a8)), (4, .int (nI (menN M))), (0, .ref (ag)), (1, .ref (ap)), (2, .ref (aw)), (3, .ref (al))]) hx hb dL_share_163 hl (k := 1) rfl (dn_next hi6) (by decide) rfl (fun ls hl => ?_)
                  refine lv_goto (tgt := 105) hx hb dL_share_166 (by decide) ?_
                  exact ih_105 (i + 1, nI (5 - i)) (by show (6 - (i + 1)) < (6 - i); omega) _ _ _ ⟨(show (i + 1) ≤ 6 from by omega), (show (nI (5 - i)) = itr (i + 1) (bsStep n M (hdN n M o t) o) (-1) from by show _ = bsStep n M (hdN n M o t) o i (itr i _ _); rw [← he]; simp [bsStep, c_26, c_42, c_62, c_96, c_107, c_119, c_129, c_134]), hP, hD, hS, lv_sub hl [0, 1, 2, 3, 4, 5, 6, 7, 8, 9, 10] rfl⟩
                · refine lv_aload_n hx hb dL_share_137 rfl (lv_at hl 7 rfl) ?_
                  refine lv_aload_n hx hb dL_share_138 rfl (lv_at hl 9 rfl) ?_
                  refine lv_iload hx hb dL_share_139 (lv_at hl 0 rfl) ?_
                  refine gSi (gs := [[(ag, .inl (cyI, 6, .inl (g)))], [(ap, .inl (cyI, 20, .inl (p)))], [(aw, .inl (cyI, 20, .inl (o)))], [(al, .inl (cyI, 20, .inl (fillM n gl)))], [(a8, .inl (cyI, 6, .inl (qT n M o t)))], [(a14, .inl (cyI, 6, .inl (fun _ => 0)))]]) (As := [.ref (ag), .ref (aw), .int (nI (5 - i))]) (rest := []) ⟨hx, hb, hml, hown, hts⟩ (c_L_roundOf l G cyI cyO ag aw g o n (nI (5 - i)) (hn) (h0)) (va_cwS 3 hts gL_share_L_roundOf rfl rfl rfl (by decide +kernel) ⟨Nat.le_of_ble_eq_true rfl, Nat.le_of_ble_eq_true rfl⟩) hK hP hD hS hA [0, 2] rfl rfl rfl rfl hl.1 rfl (Nat.le_of_ble_eq_true rfl) dL_share_141 ⟨Nat.le_of_ble_eq_true rfl, Nat.le_of_ble_eq_true rfl⟩ (fun H locs hP hD hS => ?_)
                  have hP : va_P G vwCl (cat [[(ag, .inl (cyI, 6, .inl (g)))], [(ap, .inl (cyI, 20, .inl (p)))], [(aw, .inl (cyI, 20, .inl (o)))], [(al, .inl (cyI, 20, .inl (fillM n gl)))], [(a8, .inl (cyI, 6, .inl (qT n M o t)))], [(a14, .inl (cyI, 6, .inl (fun _ => 0)))]]) H := hP
                  have hD : va_D A9 (cat [[(ag, .inl (cyI, 6, .inl (g)))], [(ap, .inl (cyI, 20, .inl (p)))], [(aw, .inl (cyI, 20, .inl (o)))], [(al, .inl (cyI, 20, .inl (fillM n gl)))], [(a8, .inl (cyI, 6, .inl (qT n M o t)))], [(a14, .inl (cyI, 6, .inl (fun _ => 0)))]]) := hD
                  refine lv_aload_n hx hb dL_share_144 rfl (lv_at hl 7 rfl) ?_
                  refine lv_aload_n hx hb dL_share_145 rfl (lv_at hl 9 rfl) ?_
                  refine lv_iload hx hb dL_share_146 (lv_at hl 1 rfl) ?_
                  refine gSi (gs := [[(ag, .inl (cyI, 6, .inl (g)))], [(ap, .inl (cyI, 20, .inl (p)))], [(aw, .inl (cyI, 20, .inl (o)))], [(al, .inl (cyI, 20, .inl (fillM n gl)))], [(a8, .inl (cyI, 6, .inl (qT n M o t)))], [(a14, .inl (cyI, 6, .inl (fun _ => 0)))]]) (As := [.ref (ag), .ref (aw), .int (x)]) (rest := [.int (nI (rSz o n (nI (5 - i))))]) ⟨hx, hb, hml, hown, hts⟩ (c_L_roundOf l G cyI cyO ag aw g o n x (hn) (h0)) (va_cwS 3 hts gL_share_L_roundOf rfl rfl rfl (by decide +kernel) ⟨Nat.le_of_ble_eq_true rfl, Nat.le_of_ble_eq_true rfl⟩) hK hP hD hS hA [0, 2] rfl rfl rfl rfl hl.1 rfl (Nat.le_of_ble_eq_true rfl) dL_share_148 ⟨Nat.le_of_ble_eq_true rfl, Nat.le_of_ble_eq_true rfl⟩ (fun H locs hP hD hS => ?_)
                  have hP : va_P G vwCl (cat [[(ag, .inl (cyI, 6, .inl (g)))], [(ap, .inl (cyI, 20, .inl (p)))], [(aw, .inl (cyI, 20, .inl (o)))], [(al, .inl (cyI, 20, .inl (fillM n gl)))], [(a8, .inl (cyI, 6, .inl (qT n M o t)))], [(a14, .inl (cyI, 6, .inl (fun _ => 0)))]]) H := hP
                  have hD : va_D A9 (cat [[(ag, .inl (cyI, 6, .inl (g)))], [(ap, .inl (cyI, 20, .inl (p)))], [(aw, .inl (cyI, 20, .inl (o)))], [(al, .inl (cyI, 20, .inl (fillM n gl)))], [(a8, .inl (cyI, 6, .inl (qT n M o t)))], [(a14, .inl (cyI, 6, .inl (fun _ => 0)))]]) := hD
                  refine lv_icmp_lt (tgt := 159) hx hb dL_share_151 (by decide) (fun c_151 => ?_) (fun c_151 => ?_)
                  · have c_151 : (rSz o n (nI (5 - i))) < (rSz o n x) := (nI_ltI (a := rSz o n (nI (5 - i))) (b := rSz o n x) (by omega) (by omega)).mp c_151
                    refine lv_iload hx hb dL_share_159 (lv_at hl 1 rfl) ?_
                    refine lv_istore (lv' := [(9, .int (x)), (10, .int (nI (5 - i))), (8, .int (nI (hdN n M o t))), (7, .int (nI (n % menN M - t))), (6, .ref (a14)), (5, .ref (a8)), (4, .int (nI (menN M))), (0, .ref (ag)), (1, .ref (ap)), (2, .ref (aw)), (3, .ref (al))]) hx hb dL_share_161 hl (by decide) rfl (fun ls hl => ?_)
                    refine lv_iinc (v := dn (6 - (i + 1))) (lv' := [(10, .int (dn (6 - (i + 1)))), (9, .int (x)), (8, .int (nI (hdN n M o t))), (7, .int (nI (n % menN M - t))), (6, .ref (a14)), (5, .ref (a8)), (4, .int (nI (menN M))), (0, .ref (ag)), (1, .ref (ap)), (2, .ref (aw)), (3, .ref (al))]) hx hb dL_share_163 hl (k := 1) rfl (dn_next hi6) (by decide) rfl (fun ls hl => ?_)
                    refine lv_goto (tgt := 105) hx hb dL_share_166 (by decide) ?_
                    exact ih_105 (i + 1, x) (by show (6 - (i + 1)) < (6 - i); omega) _ _ _ ⟨(show (i + 1) ≤ 6 from by omega), (show x = itr (i + 1) (bsStep n M (hdN n M o t) o) (-1) from by show _ = bsStep n M (hdN n M o t) o i (itr i _ _); rw [← he]; simp [bsStep, c_26, c_42, c_62, c_96, c_107, c_119, c_129, c_134, c_151]), hP, hD, hS, lv_sub hl [0, 1, 2, 3, 4, 5, 6, 7, 8, 9, 10] rfl⟩
                  · have c_151 : ¬ (rSz o n (nI (5 - i))) < (rSz o n x) := fun h9 => c_151 ((nI_ltI (a := rSz o n (nI (5 - i))) (b := rSz o n x) (by omega) (by omega)).mpr h9)
                    refine lv_iload hx hb dL_share_154 (lv_at hl 0 rfl) ?_
                    refine lv_goto (tgt := 161) hx hb dL_share_156 (by decide) ?_
                    refine lv_istore (lv' := [(9, .int (nI (5 - i))), (10, .int (nI (5 - i))), (8, .int (nI (hdN n M o t))), (7, .int (nI (n % menN M - t))), (6, .ref (a14)), (5, .ref (a8)), (4, .int (nI (menN M))), (0, .ref (ag)), (1, .ref (ap)), (2, .ref (aw)), (3, .ref (al))]) hx hb dL_share_161 hl (by decide) rfl (fun ls hl => ?_)
                    refine lv_iinc (v := dn (6 - (i + 1))) (lv' := [(10, .int (dn (6 - (i + 1)))), (9, .int (nI (5 - i))), (8, .int (nI (hdN n M o t))), (7, .int (nI (n % menN M - t))), (6, .ref (a14)), (5, .ref (a8)), (4, .int (nI (menN M))), (0, .ref (ag)), (1, .ref (ap)), (2, .ref (aw)), (3, .ref (al))]) hx hb dL_share_163 hl (k := 1) rfl (dn_next hi6) (by decide) rfl (fun ls hl => ?_)
                    refine lv_goto (tgt := 105) hx hb dL_share_166 (by decide) ?_
                    exact ih_105 (i + 1, nI (5 - i)) (by show (6 - (i + 1)) < (6 - i); omega) _ _ _ ⟨(show (i + 1) ≤ 6 from by omega), (show (nI (5 - i)) = itr (i + 1) (bsStep n M (hdN n M o t) o) (-1) from by show _ = bsStep n M (hdN n M o t) o i (itr i _ _); rw [← he]; simp [bsStep, c_26, c_42, c_62, c_96, c_107, c_119, c_129, c_134, c_151]), hP, hD, hS, lv_sub hl [0, 1, 2, 3, 4, 5, 6, 7, 8, 9, 10] rfl⟩
      · have c_62 : ¬ (6) ≤ (i) := fun h9 => c_62 ((nI_leI (a := 6) (b := i) (by omega) (by omega)).mpr h9)
        refine lv_aload hx hb dL_share_65 (lv_at hl 3 rfl) ?_
        refine lv_iload hx hb dL_share_67 (lv_at hl 0 rfl) ?_
        refine lv_aload_n hx hb dL_share_69 rfl (lv_at hl 5 rfl) ?_
        refine lv_iconst (v := (5 : Int32)) hx hb dL_share_70 (by decide) ?_
        refine r_ild (k := 5) (n := 6) (f := g) hx hb hK hP 0 0 rfl rfl (by omega) (by omega) rfl dL_share_71 ?_
        refine top_i (x' := nI (M)) (h5) ?_
        refine lv_iload hx hb dL_share_72 (lv_at hl 0 rfl) ?_
        refine lv_ishr hx hb dL_share_74 ?_
        refine lv_iconst (v := (1 : Int32)) hx hb dL_share_75 (by decide) ?_
        refine lv_iand hx hb dL_share_76 ?_
        refine top_i (x' := nI (bt M i)) (bt_all M (by omega) i (by omega)) ?_
        refine lv_aload_n hx hb dL_share_77 rfl (lv_at hl 5 rfl) ?_
        refine lv_iconst (v := (0 : Int32)) hx hb dL_share_78 (by decide) ?_
        refine r_ild (k := 0) (n := 6) (f := g) hx hb hK hP 0 0 rfl rfl (by omega) (by omega) rfl dL_share_79 ?_
        refine top_i (x' := nI (n)) (h0) ?_
        refine lv_iload hx hb dL_share_80 (lv_at hl 4 rfl) ?_
        refine lv_idiv hx hb dL_share_82 (nI_ne0 (by omega) (by omega)) ?_
        refine top_i (x' := nI (n / menN M)) (pk_div (by omega) (by omega) (by omega)) ?_
        refine lv_imul hx hb dL_share_83 ?_
        refine top_i (x' := nI ((bt M i) * (n / menN M))) (pk_mul (bt M i) (n / menN M)) ?_
        refine r_ist (k := i) (n := 6) (f := itr i (fun j f => upd f j (nI (bt M j * (n / menN M)))) (fun _ => 0)) hx hb hK hP hD hS 4 0 rfl rfl (by omega) (by omega) rfl dL_share_84 (fun H locs hP hD hS => ?_)
        have hP : va_P G vwCl (cat [[(ag, .inl (cyI, 6, .inl (g)))], [(ap, .inl (cyI, 20, .inl (p)))], [(aw, .inl (cyI, 20, .inl (o)))], [(al, .inl (cyI, 20, .inl (fillM n gl)))], [(a8, .inl (cyI, 6, .inl (upd (itr i (fun j f => upd f j (nI (bt M j * (n / menN M)))) (fun _ => 0)) i (nI ((bt M i) * (n / menN M))))))], [(a14, .inl (cyI, 6, .inl (fun _ => 0)))]]) H := hP
        have hD : va_D A9 (cat [[(ag, .inl (cyI, 6, .inl (g)))], [(ap, .inl (cyI, 20, .inl (p)))], [(aw, .inl (cyI, 20, .inl (o)))], [(al, .inl (cyI, 20, .inl (fillM n gl)))], [(a8, .inl (cyI, 6, .inl (upd (itr i (fun j f => upd f j (nI (bt M j * (n / menN M)))) (fun _ => 0)) i (nI ((bt M i) * (n / menN M))))))], [(a14, .inl (cyI, 6, .inl (fun _ => 0)))]]) := hD
        refine lv_iinc (v := nI (i + 1)) (lv' := [(8, .int (nI (i + 1))), (7, .int (nI (n % menN M))), (6, .ref (a14)), (5, .ref (a8)), (4, .int (nI (menN M))), (0, .ref (ag)), (1, .ref (ap)), (2, .ref (aw)), (3, .ref (al))]) hx hb dL_share_85 hl (k := 0) rfl (nI_add _ _) (by decide) rfl (fun ls hl => ?_)
        refine lv_goto (tgt := 58) hx hb dL_share_88 (by decide) ?_
        exact ih_58 (i + 1) (by show (6 - (i + 1)) < (6 - i); omega) _ _ _ ⟨(show (i + 1) ≤ 6 from by omega), hP, hD, hS, lv_sub hl [0, 1, 2, 3, 4, 5, 6, 7, 8] rfl⟩
    · have c_42 : (menN M) = (0) := (nI_eq (a := menN M) (b := 0) (by omega) (by omega)).mp c_42
      refine lv_iconst (v := (-1 : Int32)) hx hb dL_share_45 (by decide) ?_
      have hP := seg_P (gi := [[(ag, .inl (cyI, 6, .inl (g)))], [(ap, .inl (cyI, 20, .inl (p)))], [(aw, .inl (cyI, 20, .inl (o)))], [(al, .inl (cyI, 20, .inl (fillM n gl)))]]) hP (is := [0, 1, 2, 3]) rfl rfl
      have hD := seg_D (gi := [[(ag, .inl (cyI, 6, .inl (g)))], [(ap, .inl (cyI, 20, .inl (p)))], [(aw, .inl (cyI, 20, .inl (o)))], [(al, .inl (cyI, 20, .inl (fillM n gl)))]]) hD (is := [0, 1, 2, 3]) rfl rfl
      have hP : va_P G vwCl (cat [[(ag, .inl (cyI, 6, .inl (g)))], [(ap, .inl (cyI, 20, .inl (p)))], [(aw, .inl (cyI, 20, .inl (o)))], [(al, .inl (cyI, 20, .inl (fillM n gl)))]]) H := hP
      have hD : va_D A9 (cat [[(ag, .inl (cyI, 6, .inl (g)))], [(ap, .inl (cyI, 20, .inl (p)))], [(aw, .inl (cyI, 20, .inl (o)))], [(al, .inl (cyI, 20, .inl (fillM n gl)))]]) := hD
      refine W.widen (k := 2) (n := 12) (Nat.le_of_ble_eq_true rfl) (Nat.le_of_ble_eq_true rfl) ?_
      have hgo : cat [[(ag, .inl (cyI, 6, .inl (g)))], [(ap, .inl (cyI, 20, .inl (p)))], [(aw, .inl (cyI, 20, .inl (o)))], [(al, .inl (cyI, 20, .inl (fillM n gl)))]] = cat [[(ag, .inl (cyI, 6, .inl (g)))], [(ap, .inl (cyI, 20, .inl (p)))], [(aw, .inl (cyI, 20, .inl (o)))], [(al, .inl (cyI, 20, .inl (lsG n M p o gl)))]] := by unfold lsG; rw [if_pos c_42]
      rw [hgo] at hP hD
      have hP : va_P G vwCl (cat [[(ag, .inl (cyI, 6, .inl (g)))], [(ap, .inl (cyI, 20, .inl (p)))], [(aw, .inl (cyI, 20, .inl (o)))], [(al, .inl (cyI, 20, .inl (lsG n M p o gl)))]]) H := hP
      have hD : va_D A9 (cat [[(ag, .inl (cyI, 6, .inl (g)))], [(ap, .inl (cyI, 20, .inl (p)))], [(aw, .inl (cyI, 20, .inl (o)))], [(al, .inl (cyI, 20, .inl (lsG n M p o gl)))]]) := hD
      exact end_i hx hb hr hlocks hK hP hD hS (by unfold lsR; rw [if_pos c_42]) dL_share_46
  · have c_26 : ¬ (n) ≤ (i) := fun h9 => c_26 ((nI_leI (a := n) (b := i) (by omega) (by omega)).mpr h9)
    refine lv_aload_n hx hb dL_share_29 rfl (lv_at hl 7 rfl) ?_
    refine lv_iload hx hb dL_share_30 (lv_at hl 0 rfl) ?_
    refine lv_iconst (v := (-1 : Int32)) hx hb dL_share_32 (by decide) ?_
    refine r_ist (k := i) (n := 20) (f := itr i (fun j g => upd g j (-1)) gl) hx hb hK hP hD hS 3 0 rfl rfl (by omega) (by omega) rfl dL_share_33 (fun H locs hP hD hS => ?_)
    have hP : va_P G vwCl (cat [[(ag, .inl (cyI, 6, .inl (g)))], [(ap, .inl (cyI, 20, .inl (p)))], [(aw, .inl (cyI, 20, .inl (o)))], [(al, .inl (cyI, 20, .inl (upd (itr i (fun j g => upd g j (-1)) gl) i ((-1 : Int32)))))], [(a8, .inl (cyI, 6, .inl (fun _ => 0)))], [(a14, .inl (cyI, 6, .inl (fun _ => 0)))]]) H := hP
    have hD : va_D A9 (cat [[(ag, .inl (cyI, 6, .inl (g)))], [(ap, .inl (cyI, 20, .inl (p)))], [(aw, .inl (cyI, 20, .inl (o)))], [(al, .inl (cyI, 20, .inl (upd (itr i (fun j g => upd g j (-1)) gl) i ((-1 : Int32)))))], [(a8, .inl (cyI, 6, .inl (fun _ => 0)))], [(a14, .inl (cyI, 6, .inl (fun _ => 0)))]]) := hD
    refine lv_iinc (v := nI (i + 1)) (lv' := [(7, .int (nI (i + 1))), (6, .ref (a14)), (5, .ref (a8)), (4, .int (nI (menN M))), (0, .ref (ag)), (1, .ref (ap)), (2, .ref (aw)), (3, .ref (al))]) hx hb dL_share_34 hl (k := 0) rfl (nI_add _ _) (by decide) rfl (fun ls hl => ?_)
    refine lv_goto (tgt := 21) hx hb dL_share_37 (by decide) ?_
    exact ih_21 (i + 1) (by show (n - (i + 1)) < (n - i); omega) _ _ _ ⟨(show (i + 1) ≤ n from by omega), hP, hD, hS, lv_sub hl [0, 1, 2, 3, 4, 5, 6, 7] rfl⟩

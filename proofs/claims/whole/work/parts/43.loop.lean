/-! ===== the law: its loop ===== -/
theorem sw32 (x : Int32) : (x.toInt < 0 ∨ 31 < x.toInt) ∨ ∃ k, k < 32 ∧ x = nI k := by
  by_cases h : x.toInt < 0 ∨ 31 < x.toInt
  · exact Or.inl h
  · refine Or.inr ⟨x.toInt.toNat, by omega, Int32.toInt_inj.mp ?_⟩
    rw [nI_toInt (by omega)]
    omega
theorem len_3 {Ln : Nat} (h : Ln ≤ 1536) : (Int32.ofNat Ln - 3).toInt = (Ln : Int) - 3 := by
  by_cases c : 3 ≤ Ln
  · have e : Int32.ofNat Ln - 3 = nI (Ln - 3) := by
      rw [show (3 : Int32) = nI 3 by decide +kernel]; exact nI_sub c
    rw [e, nI_toInt (by omega)]; omega
  · have h3 : Ln = 0 ∨ Ln = 1 ∨ Ln = 2 := by omega
    rcases h3 with rfl | rfl | rfl <;> decide +kernel
theorem go_on {Ln i : Nat} (hL : Ln ≤ 1536) (hi : i ≤ 5000) (h : ¬ Int32.ofNat Ln - 3 < nI i) : i + 2 < Ln := by
  rw [Int32.lt_iff_toInt_lt, len_3 hL, nI_toInt (by omega)] at h
  omega
set_option maxHeartbeats 4000000 in
set_option maxRecDepth 100000 in
theorem law_case {p9 : Program} {l : Launch} {e9 : Env} {s9 : State} {m9 : MethodId} {b9 : List Frame} {t9 : Method} {c9 : Code} {A9 : Nat → Prop} {G : va_G} {cyI cyO cyJ : ClassId} {b Ln : Nat} {xs : Nat → Int32} {Q : State → Prop} {h : Nat} {Ad At As Ac Am : Nat → Nat} {ao : Nat} {i cells slots k : Nat} {H : Heap} {locs : List Loc} {ls : Array Slot} (hC : LC p9 l s9 m9 c9 A9 G cyI cyO cyJ b Ln xs) (hi : i + 2 < Ln) (hLn : Ln ≤ 1536) (hcs : cells + 1 ≤ 609290 ∧ slots + 6 ≤ 7268235) (hJ : LJ G cyI cyO cyJ s9 A9 b h Ad At As Ac Am ao i H locs ls) (hk : k < 32)
    (kk : ∀ (H : Heap) (locs : List Loc) (ls : Array Slot), LJ G cyI cyO cyJ s9 A9 b h Ad At As Ac Am ao i H locs ls → W p9 l e9 room_1 s9 m9 #[Value.ref b] b9 t9 c9 H locs (cells + 1) (slots + 6) Q (F0 m9 1444 ls [])) :
    W p9 l e9 room_1 s9 m9 #[Value.ref b] b9 t9 c9 H locs cells slots Q (F0 m9 39 ls [.int (nI k)]) := by
  have hx := hC.1
  have hb := hC.2.1
  have h9 : k = 0 ∨ k = 1 ∨ k = 2 ∨ k = 3 ∨ k = 4 ∨ k = 5 ∨ k = 6 ∨ k = 7 ∨ k = 8 ∨ k = 9 ∨ k = 10 ∨ k = 11 ∨ k = 12 ∨ k = 13 ∨ k = 14 ∨ k = 15 ∨ k = 16 ∨ k = 17 ∨ k = 18 ∨ k = 19 ∨ k = 20 ∨ k = 21 ∨ k = 22 ∨ k = 23 ∨ k = 24 ∨ k = 25 ∨ k = 26 ∨ k = 27 ∨ k = 28 ∨ k = 29 ∨ k = 30 ∨ k = 31 := by omega
  rcases h9 with rfl | rfl | rfl | rfl | rfl | rfl | rfl | rfl | rfl | rfl | rfl | rfl | rfl | rfl | rfl | rfl | rfl | rfl | rfl | rfl | rfl | rfl | rfl | rfl | rfl | rfl | rfl | rfl | rfl | rfl | rfl | rfl
  · exact lv_tableIn (tgt := 180) (off := 141) hx hb dL_law_39 (by decide +kernel) (by decide +kernel) (by decide +kernel) (by decide) (law_addDoorstep hC hi hLn hcs hJ kk)
  · exact lv_tableIn (tgt := 236) (off := 197) hx hb dL_law_39 (by decide +kernel) (by decide +kernel) (by decide +kernel) (by decide) (law_removeDoorstep hC hi hLn hcs hJ kk)
  · exact lv_tableIn (tgt := 292) (off := 253) hx hb dL_law_39 (by decide +kernel) (by decide +kernel) (by decide +kernel) (by decide) (law_setPints hC hi hLn hcs hJ kk)
  · exact lv_tableIn (tgt := 360) (off := 321) hx hb dL_law_39 (by decide +kernel) (by decide +kernel) (by decide +kernel) (by decide) (law_come hC hi hLn hcs hJ kk)
  · exact lv_tableIn (tgt := 416) (off := 377) hx hb dL_law_39 (by decide +kernel) (by decide +kernel) (by decide +kernel) (by decide) (law_leave hC hi hLn hcs hJ kk)
  · exact lv_tableIn (tgt := 472) (off := 433) hx hb dL_law_39 (by decide +kernel) (by decide +kernel) (by decide +kernel) (by decide) (law_doorsteps hC hi hLn hcs hJ kk)
  · exact lv_tableIn (tgt := 485) (off := 446) hx hb dL_law_39 (by decide +kernel) (by decide +kernel) (by decide +kernel) (by decide) (law_pints hC hi hLn hcs hJ kk)
  · exact lv_tableIn (tgt := 541) (off := 502) hx hb dL_law_39 (by decide +kernel) (by decide +kernel) (by decide +kernel) (by decide) (law_owner hC hi hLn hcs hJ kk)
  · exact lv_tableIn (tgt := 597) (off := 558) hx hb dL_law_39 (by decide +kernel) (by decide +kernel) (by decide +kernel) (by decide) (law_isAtWork hC hi hLn hcs hJ kk)
  · exact lv_tableIn (tgt := 660) (off := 621) hx hb dL_law_39 (by decide +kernel) (by decide +kernel) (by decide +kernel) (by decide) (law_size hC hi hLn hcs hJ kk)
  · exact lv_tableIn (tgt := 716) (off := 677) hx hb dL_law_39 (by decide +kernel) (by decide +kernel) (by decide +kernel) (by decide) (law_load hC hi hLn hcs hJ kk)
  · exact lv_tableIn (tgt := 772) (off := 733) hx hb dL_law_39 (by decide +kernel) (by decide +kernel) (by decide +kernel) (by decide) (law_plan hC hi hLn hcs hJ kk)
  · exact lv_tableIn (tgt := 816) (off := 777) hx hb dL_law_39 (by decide +kernel) (by decide +kernel) (by decide +kernel) (by decide) (law_handOver hC hi hLn hcs hJ kk)
  · exact lv_tableIn (tgt := 860) (off := 821) hx hb dL_law_39 (by decide +kernel) (by decide +kernel) (by decide +kernel) (by decide) (law_callOff hC hi hLn hcs hJ kk)
  · exact lv_tableIn (tgt := 904) (off := 865) hx hb dL_law_39 (by decide +kernel) (by decide +kernel) (by decide +kernel) (by decide) (law_handover hC hi hLn hcs hJ kk)
  · exact lv_tableIn (tgt := 917) (off := 878) hx hb dL_law_39 (by decide +kernel) (by decide +kernel) (by decide +kernel) (by decide) (law_planned hC hi hLn hcs hJ kk)
  · exact lv_tableIn (tgt := 973) (off := 934) hx hb dL_law_39 (by decide +kernel) (by decide +kernel) (by decide +kernel) (by decide) (law_changed hC hi hLn hcs hJ kk)
  · exact lv_tableIn (tgt := 986) (off := 947) hx hb dL_law_39 (by decide +kernel) (by decide +kernel) (by decide +kernel) (by decide) (law_deliver hC hi hLn hcs hJ kk)
  · exact lv_tableIn (tgt := 999) (off := 960) hx hb dL_law_39 (by decide +kernel) (by decide +kernel) (by decide +kernel) (by decide) (law_delivered hC hi hLn hcs hJ kk)
  · exact lv_tableIn (tgt := 1012) (off := 973) hx hb dL_law_39 (by decide +kernel) (by decide +kernel) (by decide +kernel) (by decide) (law_misses hC hi hLn hcs hJ kk)
  · exact lv_tableIn (tgt := 1025) (off := 986) hx hb dL_law_39 (by decide +kernel) (by decide +kernel) (by decide +kernel) (by decide) (law_ifPlanned hC hi hLn hcs hJ kk)
  · exact lv_tableIn (tgt := 1081) (off := 1042) hx hb dL_law_39 (by decide +kernel) (by decide +kernel) (by decide +kernel) (by decide) (law_reason hC hi hLn hcs hJ kk)
  · exact lv_tableIn (tgt := 1137) (off := 1098) hx hb dL_law_39 (by decide +kernel) (by decide +kernel) (by decide +kernel) (by decide) (law_changesToCome hC hi hLn hcs hJ kk)
  · exact lv_tableIn (tgt := 1150) (off := 1111) hx hb dL_law_39 (by decide +kernel) (by decide +kernel) (by decide +kernel) (by decide) (law_changesIf hC hi hLn hcs hJ kk)
  · exact lv_tableIn (tgt := 1206) (off := 1167) hx hb dL_law_39 (by decide +kernel) (by decide +kernel) (by decide +kernel) (by decide) (law_unevenness hC hi hLn hcs hJ kk)
  · exact lv_tableIn (tgt := 1247) (off := 1208) hx hb dL_law_39 (by decide +kernel) (by decide +kernel) (by decide +kernel) (by decide) (law_append hC hi hLn hcs hJ kk)
  · exact lv_tableIn (tgt := 1303) (off := 1264) hx hb dL_law_39 (by decide +kernel) (by decide +kernel) (by decide +kernel) (by decide) (law_clearText hC hi hLn hcs hJ kk)
  · exact lv_tableIn (tgt := 1316) (off := 1277) hx hb dL_law_39 (by decide +kernel) (by decide +kernel) (by decide +kernel) (by decide) (law_firstError hC hi hLn hcs hJ kk)
  · exact lv_tableIn (tgt := 1329) (off := 1290) hx hb dL_law_39 (by decide +kernel) (by decide +kernel) (by decide +kernel) (by decide) (law_run hC hi hLn hcs hJ kk)
  · exact lv_tableIn (tgt := 1373) (off := 1334) hx hb dL_law_39 (by decide +kernel) (by decide +kernel) (by decide +kernel) (by decide) (law_undo hC hi hLn hcs hJ kk)
  · exact lv_tableIn (tgt := 1417) (off := 1378) hx hb dL_law_39 (by decide +kernel) (by decide +kernel) (by decide +kernel) (by decide) (law_savedStates hC hi hLn hcs hJ kk)
  · exact lv_tableIn (tgt := 1430) (off := 1391) hx hb dL_law_39 (by decide +kernel) (by decide +kernel) (by decide +kernel) (by decide) (law_digest hC hi hLn hcs hJ kk)
set_option maxHeartbeats 4000000 in
set_option maxRecDepth 100000 in
theorem law_loop {p9 : Program} {l : Launch} {e9 : Env} {s9 : State} {m9 : MethodId} {b9 : List Frame} {t9 : Method} {c9 : Code} {A9 : Nat → Prop} {G : va_G} {cyI cyO cyJ : ClassId} {b Ln : Nat} {xs : Nat → Int32} {Q : State → Prop} {h : Nat} {Ad At As Ac Am : Nat → Nat} {ao : Nat} (hC : LC p9 l s9 m9 c9 A9 G cyI cyO cyJ b Ln xs) (hLn : Ln ≤ 1536)
    (kend : ∀ (H : Heap) (locs : List Loc) (ls : Array Slot) (cells slots : Nat), cells ≤ 609290 → slots ≤ 7268235 → va_S A9 s9.heap H locs → W p9 l e9 room_1 s9 m9 #[Value.ref b] b9 t9 c9 H locs cells slots Q (F0 m9 1450 ls [])) :
    ∀ (n i cells slots : Nat) (H : Heap) (locs : List Loc) (ls : Array Slot), Ln ≤ i + n → i ≤ 3 * 1536 → cells + n + 1 ≤ 609290 → slots + 6 * (n + 1) ≤ 7268235 → LJ G cyI cyO cyJ s9 A9 b h Ad At As Ac Am ao i H locs ls → W p9 l e9 room_1 s9 m9 #[Value.ref b] b9 t9 c9 H locs cells slots Q (F0 m9 23 ls []) := by
  have hx := hC.1
  have hb := hC.2.1
  have hscr := hC.2.2.2.2.2.1
  have hbl := hC.2.2.2.2.2.2.1
  have hbA := hC.2.2.2.2.2.2.2.1
  intro n
  induction n with
  | zero =>
    intro i cells slots H locs ls hn hi hc hs hJ
    have hl := hJ.choose_spec.choose_spec.choose_spec.choose_spec.choose_spec.choose_spec.choose_spec.choose_spec.2.2.2.1
    have hS := hJ.choose_spec.choose_spec.choose_spec.choose_spec.choose_spec.choose_spec.choose_spec.choose_spec.2.2.1
    refine lv_iload hx hb dL_law_23 (lv_at hl 0 rfl) ?_
    refine lv_aload_n hx hb dL_law_25 rfl (lv_at hl 4 rfl) ?_
    refine va_slen hx hb hscr hbl hbA hS dL_law_26 ?_
    refine lv_iconst (v := (3 : Int32)) hx hb dL_law_27 (by decide) ?_
    refine lv_isub hx hb dL_law_28 ?_
    refine lv_icmp_gt (tgt := 1450) hx hb dL_law_29 (by decide) (fun c => ?_) (fun c => ?_)
    · exact kend H locs ls cells slots (by omega) (by omega) hS
    · have := go_on hLn (by omega) c
      omega
  | succ n ih =>
    intro i cells slots H locs ls hn hi hc hs hJ
    have hl := hJ.choose_spec.choose_spec.choose_spec.choose_spec.choose_spec.choose_spec.choose_spec.choose_spec.2.2.2.1
    have hS := hJ.choose_spec.choose_spec.choose_spec.choose_spec.choose_spec.choose_spec.choose_spec.choose_spec.2.2.1
    refine lv_iload hx hb dL_law_23 (lv_at hl 0 rfl) ?_
    refine lv_aload_n hx hb dL_law_25 rfl (lv_at hl 4 rfl) ?_
    refine va_slen hx hb hscr hbl hbA hS dL_law_26 ?_
    refine lv_iconst (v := (3 : Int32)) hx hb dL_law_27 (by decide) ?_
    refine lv_isub hx hb dL_law_28 ?_
    refine lv_icmp_gt (tgt := 1450) hx hb dL_law_29 (by decide) (fun c => ?_) (fun c => ?_)
    · exact kend H locs ls cells slots (by omega) (by omega) hS
    · have hi2 := go_on hLn (by omega) c
      have hcs : cells + 1 ≤ 609290 ∧ slots + 6 ≤ 7268235 := ⟨by omega, by omega⟩
      refine lv_aload_n hx hb dL_law_32 rfl (lv_at hl 4 rfl) ?_
      refine lv_iload hx hb dL_law_33 (lv_at hl 0 rfl) ?_
      refine va_sld hx hb hscr hbl hbA hS (vp_in_nI (n := i) (by omega) (by omega)) dL_law_35 ?_
      refine lv_bipush (v := (31 : Int32)) hx hb dL_law_36 (by decide) ?_
      refine lv_iand hx hb dL_law_38 ?_
      have kk : ∀ (H : Heap) (locs : List Loc) (ls : Array Slot), LJ G cyI cyO cyJ s9 A9 b h Ad At As Ac Am ao i H locs ls → W p9 l e9 room_1 s9 m9 #[Value.ref b] b9 t9 c9 H locs (cells + 1) (slots + 6) Q (F0 m9 1444 ls []) := by
        intro H locs ls hJ
        obtain ⟨L, D, T, S, C, V, M, f, hP, hD, hS, hl, hR⟩ := hJ
        refine lv_iinc (v := nI (i + 3)) (lv' := [(4, .int (nI (i + 3))), (3, .ref ao), (2, .ref (Am 0)), (1, .ref h), (0, .ref b)]) hx hb dL_law_1444 hl (k := 0) rfl (nI_add i 3) (by decide) rfl (fun ls hl => ?_)
        refine lv_goto (tgt := 23) hx hb dL_law_1447 (by decide) ?_
        exact ih (i + 3) (cells + 1) (slots + 6) H locs ls (by omega) (by omega) (by omega) (by omega) ⟨L, D, T, S, C, V, M, f, hP, hD, hS, hl, hR⟩
      rcases sw32 (xs (nI i).toNatClampNeg &&& 31) with hout | ⟨k, hk, ek⟩
      · refine lv_tableOut (tgt := 1444) hx hb dL_law_39 hout (by decide) ?_
        exact W.widen (Nat.le_add_right cells 1) (Nat.le_add_right slots 6) (kk H locs ls hJ)
      · rw [ek]
        exact law_case hC hi2 hLn hcs hJ hk kk

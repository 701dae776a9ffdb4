/-! ===== the law: its cases (1) ===== -/
set_option maxHeartbeats 4000000 in
set_option maxRecDepth 100000 in
theorem law_changed {p9 : Program} {l : Launch} {e9 : Env} {s9 : State} {m9 : MethodId} {b9 : List Frame} {t9 : Method} {c9 : Code} {A9 : Nat → Prop} {G : va_G} {cyI cyO cyJ : ClassId} {b Ln : Nat} {xs : Nat → Int32} {Q : State → Prop} {h : Nat} {Ad At As Ac Am : Nat → Nat} {ao i cells slots : Nat} {H : Heap} {locs : List Loc} {ls : Array Slot} (hC : LC p9 l s9 m9 c9 A9 G cyI cyO cyJ b Ln xs) (hi : i + 2 < Ln) (hLn : Ln ≤ 1536) (hcs : cells + 1 ≤ 609290 ∧ slots + 6 ≤ 7268235) (hJ : LJ G cyI cyO cyJ s9 A9 b h Ad At As Ac Am ao i H locs ls)
    (kk : ∀ (H : Heap) (locs : List Loc) (ls : Array Slot), LJ G cyI cyO cyJ s9 A9 b h Ad At As Ac Am ao i H locs ls → W p9 l e9 room_1 s9 m9 #[Value.ref b] b9 t9 c9 H locs (cells + 1) (slots + 6) Q (F0 m9 1444 ls [])) :
    W p9 l e9 room_1 s9 m9 #[Value.ref b] b9 t9 c9 H locs cells slots Q (F0 m9 973 ls []) := by
  obtain ⟨hx, hb, hml, hown, hts, hscr, hbl, hbA, hA, hK, hX, htr⟩ := hC
  obtain ⟨L, D, T, S, C, V, M, f, hP, hD, hS, hl, hR⟩ := hJ
  have hK2 := hK.sub [0, 1] (tys' := TY cyI cyO) rfl
  have hcs0 : cells ≤ 609290 ∧ slots ≤ 7268235 := ⟨by omega, by omega⟩
  have hP : va_P G vwCl (cat [[(h, .inr (5, [.ref (Ad 0), .ref (At 0), .ref (As 0), .ref (Ac 0), .ref (L 6 0)]))], dyW cyI Ad D, dyW cyI At T, shW cyI As S, ctW cyI Ac C, hiW cyI cyO L V, mdW cyI Am M, [(ao, .inl (cyJ, 1, .inr (.inl (f))))]]) H := hP
  have hD : va_D A9 (cat [[(h, .inr (5, [.ref (Ad 0), .ref (At 0), .ref (As 0), .ref (Ac 0), .ref (L 6 0)]))], dyW cyI Ad D, dyW cyI At T, shW cyI As S, ctW cyI Ac C, hiW cyI cyO L V, mdW cyI Am M, [(ao, .inl (cyJ, 1, .inr (.inl (f))))]]) := hD
  refine lv_aload_n hx hb dL_law_973 rfl (lv_at hl 3 rfl) ?_
  obtain ⟨r, M', hM, hm, hR'⟩ := q_changed l G cyI cyO h Ad At As Ac Am L D T S C V M hR
  refine gVi (gs := [[(h, .inr (5, [.ref (Ad 0), .ref (At 0), .ref (As 0), .ref (Ac 0), .ref (L 6 0)]))], dyW cyI Ad D, dyW cyI At T, shW cyI As S, ctW cyI Ac C, hiW cyI cyO L V, mdW cyI Am M, [(ao, .inl (cyJ, 1, .inr (.inl (f))))]]) (As := []) (rest := []) ⟨hx, hb, hml, hown, hts⟩ hM (cwV 0 hts gL_law_X5_changed rfl rfl rfl (by decide +kernel) ⟨Nat.le_of_ble_eq_true rfl, Nat.le_of_ble_eq_true rfl⟩) hK2 hP hD hS hA [0, 1] rfl rfl rfl 0 5 rfl rfl rfl hl.1 rfl (Nat.le_of_ble_eq_true rfl) dL_law_974 hcs0 (fun H locs hP hD hS => ?_)
  have hP : va_P G vwCl (cat [[(h, .inr (5, [.ref (Ad 0), .ref (At 0), .ref (As 0), .ref (Ac 0), .ref (L 6 0)]))], dyW cyI Ad D, dyW cyI At T, shW cyI As S, ctW cyI Ac C, hiW cyI cyO L V, mdW cyI Am M, [(ao, .inl (cyJ, 1, .inr (.inl (f))))]]) H := hP
  have hD : va_D A9 (cat [[(h, .inr (5, [.ref (Ad 0), .ref (At 0), .ref (As 0), .ref (Ac 0), .ref (L 6 0)]))], dyW cyI Ad D, dyW cyI At T, shW cyI As S, ctW cyI Ac C, hiW cyI cyO L V, mdW cyI Am M, [(ao, .inl (cyJ, 1, .inr (.inl (f))))]]) := hD
  refine lv_aload_n hx hb dL_law_977 rfl (lv_at hl 2 rfl) ?_
  refine gVi (gs := [[(h, .inr (5, [.ref (Ad 0), .ref (At 0), .ref (As 0), .ref (Ac 0), .ref (L 6 0)]))], dyW cyI Ad D, dyW cyI At T, shW cyI As S, ctW cyI Ac C, hiW cyI cyO L V, mdW cyI Am M, [(ao, .inl (cyJ, 1, .inr (.inl (f))))]]) (As := []) (rest := [.int (r)]) ⟨hx, hb, hml, hown, hts⟩ hm (cwV 0 hts gL_law_X6_changed rfl rfl rfl (by decide +kernel) ⟨Nat.le_of_ble_eq_true rfl, Nat.le_of_ble_eq_true rfl⟩) hK2 hP hD hS hA [6] rfl rfl rfl 0 6 rfl rfl rfl hl.1 rfl (Nat.le_of_ble_eq_true rfl) dL_law_978 hcs0 (fun H locs hP hD hS => ?_)
  have hP : va_P G vwCl (cat [[(h, .inr (5, [.ref (Ad 0), .ref (At 0), .ref (As 0), .ref (Ac 0), .ref (L 6 0)]))], dyW cyI Ad D, dyW cyI At T, shW cyI As S, ctW cyI Ac C, hiW cyI cyO L V, mdW cyI Am M', [(ao, .inl (cyJ, 1, .inr (.inl (f))))]]) H := hP
  have hD : va_D A9 (cat [[(h, .inr (5, [.ref (Ad 0), .ref (At 0), .ref (As 0), .ref (Ac 0), .ref (L 6 0)]))], dyW cyI Ad D, dyW cyI At T, shW cyI As S, ctW cyI Ac C, hiW cyI cyO L V, mdW cyI Am M', [(ao, .inl (cyJ, 1, .inr (.inl (f))))]]) := hD
  refine lv_icmp_eq (tgt := 1444) hx hb dL_law_981 (by decide) (fun c_981 => ?_) (fun c_981 => ?_)
  · refine W.widen (k := cells + 1) (n := slots + 6) (Nat.le_add_right _ _) (Nat.le_add_right _ _) ?_
    exact kk _ _ _ ⟨L, D, T, S, C, V, M', f, hP, hD, hS, lv_sub hl [0, 1, 2, 3, 4] rfl, hR'⟩
  · exact absurd rfl c_981
set_option maxHeartbeats 4000000 in
set_option maxRecDepth 100000 in
theorem law_deliver {p9 : Program} {l : Launch} {e9 : Env} {s9 : State} {m9 : MethodId} {b9 : List Frame} {t9 : Method} {c9 : Code} {A9 : Nat → Prop} {G : va_G} {cyI cyO cyJ : ClassId} {b Ln : Nat} {xs : Nat → Int32} {Q : State → Prop} {h : Nat} {Ad At As Ac Am : Nat → Nat} {ao i cells slots : Nat} {H : Heap} {locs : List Loc} {ls : Array Slot} (hC : LC p9 l s9 m9 c9 A9 G cyI cyO cyJ b Ln xs) (hi : i + 2 < Ln) (hLn : Ln ≤ 1536) (hcs : cells + 1 ≤ 609290 ∧ slots + 6 ≤ 7268235) (hJ : LJ G cyI cyO cyJ s9 A9 b h Ad At As Ac Am ao i H locs ls)
    (kk : ∀ (H : Heap) (locs : List Loc) (ls : Array Slot), LJ G cyI cyO cyJ s9 A9 b h Ad At As Ac Am ao i H locs ls → W p9 l e9 room_1 s9 m9 #[Value.ref b] b9 t9 c9 H locs (cells + 1) (slots + 6) Q (F0 m9 1444 ls [])) :
    W p9 l e9 room_1 s9 m9 #[Value.ref b] b9 t9 c9 H locs cells slots Q (F0 m9 986 ls []) := by
  obtain ⟨hx, hb, hml, hown, hts, hscr, hbl, hbA, hA, hK, hX, htr⟩ := hC
  obtain ⟨L, D, T, S, C, V, M, f, hP, hD, hS, hl, hR⟩ := hJ
  have hK2 := hK.sub [0, 1] (tys' := TY cyI cyO) rfl
  have hcs0 : cells ≤ 609290 ∧ slots ≤ 7268235 := ⟨by omega, by omega⟩
  have hP : va_P G vwCl (cat [[(h, .inr (5, [.ref (Ad 0), .ref (At 0), .ref (As 0), .ref (Ac 0), .ref (L 6 0)]))], dyW cyI Ad D, dyW cyI At T, shW cyI As S, ctW cyI Ac C, hiW cyI cyO L V, mdW cyI Am M, [(ao, .inl (cyJ, 1, .inr (.inl (f))))]]) H := hP
  have hD : va_D A9 (cat [[(h, .inr (5, [.ref (Ad 0), .ref (At 0), .ref (As 0), .ref (Ac 0), .ref (L 6 0)]))], dyW cyI Ad D, dyW cyI At T, shW cyI As S, ctW cyI Ac C, hiW cyI cyO L V, mdW cyI Am M, [(ao, .inl (cyJ, 1, .inr (.inl (f))))]]) := hD
  refine lv_aload_n hx hb dL_law_986 rfl (lv_at hl 3 rfl) ?_
  obtain ⟨r, L', D', V', M', hM, hm, hR'⟩ := q_deliver l G cyI cyO h Ad At As Ac Am L D T S C V M hR
  refine gVi (gs := [[(h, .inr (5, [.ref (Ad 0), .ref (At 0), .ref (As 0), .ref (Ac 0), .ref (L 6 0)]))], dyW cyI Ad D, dyW cyI At T, shW cyI As S, ctW cyI Ac C, hiW cyI cyO L V, mdW cyI Am M, [(ao, .inl (cyJ, 1, .inr (.inl (f))))]]) (As := []) (rest := []) ⟨hx, hb, hml, hown, hts⟩ hM (cwV 0 hts gL_law_X5_deliver rfl rfl rfl (by decide +kernel) ⟨Nat.le_of_ble_eq_true rfl, Nat.le_of_ble_eq_true rfl⟩) hK2 hP hD hS hA [0, 1, 5] rfl rfl rfl 0 5 rfl rfl rfl hl.1 rfl (Nat.le_of_ble_eq_true rfl) dL_law_987 hcs0 (fun H locs hP hD hS => ?_)
  have hP : va_P G vwCl (cat [[(h, .inr (5, [.ref (Ad 0), .ref (At 0), .ref (As 0), .ref (Ac 0), .ref (L' 6 0)]))], dyW cyI Ad D', dyW cyI At T, shW cyI As S, ctW cyI Ac C, hiW cyI cyO L' V', mdW cyI Am M, [(ao, .inl (cyJ, 1, .inr (.inl (f))))]]) H := hP
  have hD : va_D A9 (cat [[(h, .inr (5, [.ref (Ad 0), .ref (At 0), .ref (As 0), .ref (Ac 0), .ref (L' 6 0)]))], dyW cyI Ad D', dyW cyI At T, shW cyI As S, ctW cyI Ac C, hiW cyI cyO L' V', mdW cyI Am M, [(ao, .inl (cyJ, 1, .inr (.inl (f))))]]) := hD
  refine lv_aload_n hx hb dL_law_990 rfl (lv_at hl 2 rfl) ?_
  refine gVi (gs := [[(h, .inr (5, [.ref (Ad 0), .ref (At 0), .ref (As 0), .ref (Ac 0), .ref (L' 6 0)]))], dyW cyI Ad D', dyW cyI At T, shW cyI As S, ctW cyI Ac C, hiW cyI cyO L' V', mdW cyI Am M, [(ao, .inl (cyJ, 1, .inr (.inl (f))))]]) (As := []) (rest := [.int (r)]) ⟨hx, hb, hml, hown, hts⟩ hm (cwV 0 hts gL_law_X6_deliver rfl rfl rfl (by decide +kernel) ⟨Nat.le_of_ble_eq_true rfl, Nat.le_of_ble_eq_true rfl⟩) hK2 hP hD hS hA [6] rfl rfl rfl 0 6 rfl rfl rfl hl.1 rfl (Nat.le_of_ble_eq_true rfl) dL_law_991 hcs0 (fun H locs hP hD hS => ?_)
  have hP : va_P G vwCl (cat [[(h, .inr (5, [.ref (Ad 0), .ref (At 0), .ref (As 0), .ref (Ac 0), .ref (L' 6 0)]))], dyW cyI Ad D', dyW cyI At T, shW cyI As S, ctW cyI Ac C, hiW cyI cyO L' V', mdW cyI Am M', [(ao, .inl (cyJ, 1, .inr (.inl (f))))]]) H := hP
  have hD : va_D A9 (cat [[(h, .inr (5, [.ref (Ad 0), .ref (At 0), .ref (As 0), .ref (Ac 0), .ref (L' 6 0)]))], dyW cyI Ad D', dyW cyI At T, shW cyI As S, ctW cyI Ac C, hiW cyI cyO L' V', mdW cyI Am M', [(ao, .inl (cyJ, 1, .inr (.inl (f))))]]) := hD
  refine lv_icmp_eq (tgt := 1444) hx hb dL_law_994 (by decide) (fun c_994 => ?_) (fun c_994 => ?_)
  · refine W.widen (k := cells + 1) (n := slots + 6) (Nat.le_add_right _ _) (Nat.le_add_right _ _) ?_
    exact kk _ _ _ ⟨L', D', T, S, C, V', M', f, hP, hD, hS, lv_sub hl [0, 1, 2, 3, 4] rfl, hR'⟩
  · exact absurd rfl c_994
set_option maxHeartbeats 4000000 in
set_option maxRecDepth 100000 in
theorem law_delivered {p9 : Program} {l : Launch} {e9 : Env} {s9 : State} {m9 : MethodId} {b9 : List Frame} {t9 : Method} {c9 : Code} {A9 : Nat → Prop} {G : va_G} {cyI cyO cyJ : ClassId} {b Ln : Nat} {xs : Nat → Int32} {Q : State → Prop} {h : Nat} {Ad At As Ac Am : Nat → Nat} {ao i cells slots : Nat} {H : Heap} {locs : List Loc} {ls : Array Slot} (hC : LC p9 l s9 m9 c9 A9 G cyI cyO cyJ b Ln xs) (hi : i + 2 < Ln) (hLn : Ln ≤ 1536) (hcs : cells + 1 ≤ 609290 ∧ slots + 6 ≤ 7268235) (hJ : LJ G cyI cyO cyJ s9 A9 b h Ad At As Ac Am ao i H locs ls)
    (kk : ∀ (H : Heap) (locs : List Loc) (ls : Array Slot), LJ G cyI cyO cyJ s9 A9 b h Ad At As Ac Am ao i H locs ls → W p9 l e9 room_1 s9 m9 #[Value.ref b] b9 t9 c9 H locs (cells + 1) (slots + 6) Q (F0 m9 1444 ls [])) :
    W p9 l e9 room_1 s9 m9 #[Value.ref b] b9 t9 c9 H locs cells slots Q (F0 m9 999 ls []) := by
  obtain ⟨hx, hb, hml, hown, hts, hscr, hbl, hbA, hA, hK, hX, htr⟩ := hC
  obtain ⟨L, D, T, S, C, V, M, f, hP, hD, hS, hl, hR⟩ := hJ
  have hK2 := hK.sub [0, 1] (tys' := TY cyI cyO) rfl
  have hcs0 : cells ≤ 609290 ∧ slots ≤ 7268235 := ⟨by omega, by omega⟩
  have hP : va_P G vwCl (cat [[(h, .inr (5, [.ref (Ad 0), .ref (At 0), .ref (As 0), .ref (Ac 0), .ref (L 6 0)]))], dyW cyI Ad D, dyW cyI At T, shW cyI As S, ctW cyI Ac C, hiW cyI cyO L V, mdW cyI Am M, [(ao, .inl (cyJ, 1, .inr (.inl (f))))]]) H := hP
  have hD : va_D A9 (cat [[(h, .inr (5, [.ref (Ad 0), .ref (At 0), .ref (As 0), .ref (Ac 0), .ref (L 6 0)]))], dyW cyI Ad D, dyW cyI At T, shW cyI As S, ctW cyI Ac C, hiW cyI cyO L V, mdW cyI Am M, [(ao, .inl (cyJ, 1, .inr (.inl (f))))]]) := hD
  refine lv_aload_n hx hb dL_law_999 rfl (lv_at hl 3 rfl) ?_
  obtain ⟨r, M', hM, hm, hR'⟩ := q_delivered l G cyI cyO h Ad At As Ac Am L D T S C V M hR
  refine gVi (gs := [[(h, .inr (5, [.ref (Ad 0), .ref (At 0), .ref (As 0), .ref (Ac 0), .ref (L 6 0)]))], dyW cyI Ad D, dyW cyI At T, shW cyI As S, ctW cyI Ac C, hiW cyI cyO L V, mdW cyI Am M, [(ao, .inl (cyJ, 1, .inr (.inl (f))))]]) (As := []) (rest := []) ⟨hx, hb, hml, hown, hts⟩ hM (cwV 0 hts gL_law_X5_delivered rfl rfl rfl (by decide +kernel) ⟨Nat.le_of_ble_eq_true rfl, Nat.le_of_ble_eq_true rfl⟩) hK2 hP hD hS hA [0, 1] rfl rfl rfl 0 5 rfl rfl rfl hl.1 rfl (Nat.le_of_ble_eq_true rfl) dL_law_1000 hcs0 (fun H locs hP hD hS => ?_)
  have hP : va_P G vwCl (cat [[(h, .inr (5, [.ref (Ad 0), .ref (At 0), .ref (As 0), .ref (Ac 0), .ref (L 6 0)]))], dyW cyI Ad D, dyW cyI At T, shW cyI As S, ctW cyI Ac C, hiW cyI cyO L V, mdW cyI Am M, [(ao, .inl (cyJ, 1, .inr (.inl (f))))]]) H := hP
  have hD : va_D A9 (cat [[(h, .inr (5, [.ref (Ad 0), .ref (At 0), .ref (As 0), .ref (Ac 0), .ref (L 6 0)]))], dyW cyI Ad D, dyW cyI At T, shW cyI As S, ctW cyI Ac C, hiW cyI cyO L V, mdW cyI Am M, [(ao, .inl (cyJ, 1, .inr (.inl (f))))]]) := hD
  refine lv_aload_n hx hb dL_law_1003 rfl (lv_at hl 2 rfl) ?_
  refine gVi (gs := [[(h, .inr (5, [.ref (Ad 0), .ref (At 0), .ref (As 0), .ref (Ac 0), .ref (L 6 0)]))], dyW cyI Ad D, dyW cyI At T, shW cyI As S, ctW cyI Ac C, hiW cyI cyO L V, mdW cyI Am M, [(ao, .inl (cyJ, 1, .inr (.inl (f))))]]) (As := []) (rest := [.int (r)]) ⟨hx, hb, hml, hown, hts⟩ hm (cwV 0 hts gL_law_X6_delivered rfl rfl rfl (by decide +kernel) ⟨Nat.le_of_ble_eq_true rfl, Nat.le_of_ble_eq_true rfl⟩) hK2 hP hD hS hA [6] rfl rfl rfl 0 6 rfl rfl rfl hl.1 rfl (Nat.le_of_ble_eq_true rfl) dL_law_1004 hcs0 (fun H locs hP hD hS => ?_)
  have hP : va_P G vwCl (cat [[(h, .inr (5, [.ref (Ad 0), .ref (At 0), .ref (As 0), .ref (Ac 0), .ref (L 6 0)]))], dyW cyI Ad D, dyW cyI At T, shW cyI As S, ctW cyI Ac C, hiW cyI cyO L V, mdW cyI Am M', [(ao, .inl (cyJ, 1, .inr (.inl (f))))]]) H := hP
  have hD : va_D A9 (cat [[(h, .inr (5, [.ref (Ad 0), .ref (At 0), .ref (As 0), .ref (Ac 0), .ref (L 6 0)]))], dyW cyI Ad D, dyW cyI At T, shW cyI As S, ctW cyI Ac C, hiW cyI cyO L V, mdW cyI Am M', [(ao, .inl (cyJ, 1, .inr (.inl (f))))]]) := hD
  refine lv_icmp_eq (tgt := 1444) hx hb dL_law_1007 (by decide) (fun c_1007 => ?_) (fun c_1007 => ?_)
  · refine W.widen (k := cells + 1) (n := slots + 6) (Nat.le_add_right _ _) (Nat.le_add_right _ _) ?_
    exact kk _ _ _ ⟨L, D, T, S, C, V, M', f, hP, hD, hS, lv_sub hl [0, 1, 2, 3, 4] rfl, hR'⟩
  · exact absurd rfl c_1007
set_option maxHeartbeats 4000000 in
set_option maxRecDepth 100000 in
theorem law_misses {p9 : Program} {l : Launch} {e9 : Env} {s9 : State} {m9 : MethodId} {b9 : List Frame} {t9 : Method} {c9 : Code} {A9 : Nat → Prop} {G : va_G} {cyI cyO cyJ : ClassId} {b Ln : Nat} {xs : Nat → Int32} {Q : State → Prop} {h : Nat} {Ad At As Ac Am : Nat → Nat} {ao i cells slots : Nat} {H : Heap} {locs : List Loc} {ls : Array Slot} (hC : LC p9 l s9 m9 c9 A9 G cyI cyO cyJ b Ln xs) (hi : i + 2 < Ln) (hLn : Ln ≤ 1536) (hcs : cells + 1 ≤ 609290 ∧ slots + 6 ≤ 7268235) (hJ : LJ G cyI cyO cyJ s9 A9 b h Ad At As Ac Am ao i H locs ls)
    (kk : ∀ (H : Heap) (locs : List Loc) (ls : Array Slot), LJ G cyI cyO cyJ s9 A9 b h Ad At As Ac Am ao i H locs ls → W p9 l e9 room_1 s9 m9 #[Value.ref b] b9 t9 c9 H locs (cells + 1) (slots + 6) Q (F0 m9 1444 ls [])) :
    W p9 l e9 room_1 s9 m9 #[Value.ref b] b9 t9 c9 H locs cells slots Q (F0 m9 1012 ls []) := by
  obtain ⟨hx, hb, hml, hown, hts, hscr, hbl, hbA, hA, hK, hX, htr⟩ := hC
  obtain ⟨L, D, T, S, C, V, M, f, hP, hD, hS, hl, hR⟩ := hJ
  have hK2 := hK.sub [0, 1] (tys' := TY cyI cyO) rfl
  have hcs0 : cells ≤ 609290 ∧ slots ≤ 7268235 := ⟨by omega, by omega⟩
  have hP : va_P G vwCl (cat [[(h, .inr (5, [.ref (Ad 0), .ref (At 0), .ref (As 0), .ref (Ac 0), .ref (L 6 0)]))], dyW cyI Ad D, dyW cyI At T, shW cyI As S, ctW cyI Ac C, hiW cyI cyO L V, mdW cyI Am M, [(ao, .inl (cyJ, 1, .inr (.inl (f))))]]) H := hP
  have hD : va_D A9 (cat [[(h, .inr (5, [.ref (Ad 0), .ref (At 0), .ref (As 0), .ref (Ac 0), .ref (L 6 0)]))], dyW cyI Ad D, dyW cyI At T, shW cyI As S, ctW cyI Ac C, hiW cyI cyO L V, mdW cyI Am M, [(ao, .inl (cyJ, 1, .inr (.inl (f))))]]) := hD
  refine lv_aload_n hx hb dL_law_1012 rfl (lv_at hl 3 rfl) ?_
  obtain ⟨r, M', hM, hm, hR'⟩ := q_misses l G cyI cyO h Ad At As Ac Am L D T S C V M hR
  refine gVi (gs := [[(h, .inr (5, [.ref (Ad 0), .ref (At 0), .ref (As 0), .ref (Ac 0), .ref (L 6 0)]))], dyW cyI Ad D, dyW cyI At T, shW cyI As S, ctW cyI Ac C, hiW cyI cyO L V, mdW cyI Am M, [(ao, .inl (cyJ, 1, .inr (.inl (f))))]]) (As := []) (rest := []) ⟨hx, hb, hml, hown, hts⟩ hM (cwV 0 hts gL_law_X5_misses rfl rfl rfl (by decide +kernel) ⟨Nat.le_of_ble_eq_true rfl, Nat.le_of_ble_eq_true rfl⟩) hK2 hP hD hS hA [0, 1] rfl rfl rfl 0 5 rfl rfl rfl hl.1 rfl (Nat.le_of_ble_eq_true rfl) dL_law_1013 hcs0 (fun H locs hP hD hS => ?_)
  have hP : va_P G vwCl (cat [[(h, .inr (5, [.ref (Ad 0), .ref (At 0), .ref (As 0), .ref (Ac 0), .ref (L 6 0)]))], dyW cyI Ad D, dyW cyI At T, shW cyI As S, ctW cyI Ac C, hiW cyI cyO L V, mdW cyI Am M, [(ao, .inl (cyJ, 1, .inr (.inl (f))))]]) H := hP
  have hD : va_D A9 (cat [[(h, .inr (5, [.ref (Ad 0), .ref (At 0), .ref (As 0), .ref (Ac 0), .ref (L 6 0)]))], dyW cyI Ad D, dyW cyI At T, shW cyI As S, ctW cyI Ac C, hiW cyI cyO L V, mdW cyI Am M, [(ao, .inl (cyJ, 1, .inr (.inl (f))))]]) := hD
  refine lv_aload_n hx hb dL_law_1016 rfl (lv_at hl 2 rfl) ?_
  refine gVi (gs := [[(h, .inr (5, [.ref (Ad 0), .ref (At 0), .ref (As 0), .ref (Ac 0), .ref (L 6 0)]))], dyW cyI Ad D, dyW cyI At T, shW cyI As S, ctW cyI Ac C, hiW cyI cyO L V, mdW cyI Am M, [(ao, .inl (cyJ, 1, .inr (.inl (f))))]]) (As := []) (rest := [.int (r)]) ⟨hx, hb, hml, hown, hts⟩ hm (cwV 0 hts gL_law_X6_misses rfl rfl rfl (by decide +kernel) ⟨Nat.le_of_ble_eq_true rfl, Nat.le_of_ble_eq_true rfl⟩) hK2 hP hD hS hA [6] rfl rfl rfl 0 6 rfl rfl rfl hl.1 rfl (Nat.le_of_ble_eq_true rfl) dL_law_1017 hcs0 (fun H locs hP hD hS => ?_)
  have hP : va_P G vwCl (cat [[(h, .inr (5, [.ref (Ad 0), .ref (At 0), .ref (As 0), .ref (Ac 0), .ref (L 6 0)]))], dyW cyI Ad D, dyW cyI At T, shW cyI As S, ctW cyI Ac C, hiW cyI cyO L V, mdW cyI Am M', [(ao, .inl (cyJ, 1, .inr (.inl (f))))]]) H := hP
  have hD : va_D A9 (cat [[(h, .inr (5, [.ref (Ad 0), .ref (At 0), .ref (As 0), .ref (Ac 0), .ref (L 6 0)]))], dyW cyI Ad D, dyW cyI At T, shW cyI As S, ctW cyI Ac C, hiW cyI cyO L V, mdW cyI Am M', [(ao, .inl (cyJ, 1, .inr (.inl (f))))]]) := hD
  refine lv_icmp_eq (tgt := 1444) hx hb dL_law_1020 (by decide) (fun c_1020 => ?_) (fun c_1020 => ?_)
  · refine W.widen (k := cells + 1) (n := slots + 6) (Nat.le_add_right _ _) (Nat.le_add_right _ _) ?_
    exact kk _ _ _ ⟨L, D, T, S, C, V, M', f, hP, hD, hS, lv_sub hl [0, 1, 2, 3, 4] rfl, hR'⟩
  · exact absurd rfl c_1020
set_option maxHeartbeats 4000000 in
set_option maxRecDepth 100000 in
theorem law_ifPlanned {p9 : Program} {l : Launch} {e9 : Env} {s9 : State} {m9 : MethodId} {b9 : List Frame} {t9 : Method} {c9 : Code} {A9 : Nat → Prop} {G : va_G} {cyI cyO cyJ : ClassId} {b Ln : Nat} {xs : Nat → Int32} {Q : State → Prop} {h : Nat} {Ad At As Ac Am : Nat → Nat} {ao i cells slots : Nat} {H : Heap} {locs : List Loc} {ls : Array Slot} (hC : LC p9 l s9 m9 c9 A9 G cyI cyO cyJ b Ln xs) (hi : i + 2 < Ln) (hLn : Ln ≤ 1536) (hcs : cells + 1 ≤ 609290 ∧ slots + 6 ≤ 7268235) (hJ : LJ G cyI cyO cyJ s9 A9 b h Ad At As Ac Am ao i H locs ls)
    (kk : ∀ (H : Heap) (locs : List Loc) (ls : Array Slot), LJ G cyI cyO cyJ s9 A9 b h Ad At As Ac Am ao i H locs ls → W p9 l e9 room_1 s9 m9 #[Value.ref b] b9 t9 c9 H locs (cells + 1) (slots + 6) Q (F0 m9 1444 ls [])) :
    W p9 l e9 room_1 s9 m9 #[Value.ref b] b9 t9 c9 H locs cells slots Q (F0 m9 1025 ls []) := by
  obtain ⟨hx, hb, hml, hown, hts, hscr, hbl, hbA, hA, hK, hX, htr⟩ := hC
  obtain ⟨L, D, T, S, C, V, M, f, hP, hD, hS, hl, hR⟩ := hJ
  have hK2 := hK.sub [0, 1] (tys' := TY cyI cyO) rfl
  have hcs0 : cells ≤ 609290 ∧ slots ≤ 7268235 := ⟨by omega, by omega⟩
  have hP : va_P G vwCl (cat [[(h, .inr (5, [.ref (Ad 0), .ref (At 0), .ref (As 0), .ref (Ac 0), .ref (L 6 0)]))], dyW cyI Ad D, dyW cyI At T, shW cyI As S, ctW cyI Ac C, hiW cyI cyO L V, mdW cyI Am M, [(ao, .inl (cyJ, 1, .inr (.inl (f))))]]) H := hP
  have hD : va_D A9 (cat [[(h, .inr (5, [.ref (Ad 0), .ref (At 0), .ref (As 0), .ref (Ac 0), .ref (L 6 0)]))], dyW cyI Ad D, dyW cyI At T, shW cyI As S, ctW cyI Ac C, hiW cyI cyO L V, mdW cyI Am M, [(ao, .inl (cyJ, 1, .inr (.inl (f))))]]) := hD
  refine lv_aload_n hx hb dL_law_1025 rfl (lv_at hl 3 rfl) ?_
  refine lv_aload_n hx hb dL_law_1026 rfl (lv_at hl 4 rfl) ?_
  refine lv_iload hx hb dL_law_1027 (lv_at hl 0 rfl) ?_
  refine lv_iconst (v := (1 : Int32)) hx hb dL_law_1029 (by decide) ?_
  refine lv_iadd hx hb dL_law_1030 ?_
  refine top_i (x' := nI (i + 1)) (nI_add (i) (1)) ?_
  refine va_sld hx hb hscr hbl hbA hS (vp_in_nI (n := i + 1) (by omega) (by omega)) dL_law_1031 ?_
  refine top_i (x' := xs (i + 1)) (by rw [nI_clamp (by omega)]) ?_
  refine lv_aload_n hx hb dL_law_1032 rfl (lv_at hl 1 rfl) ?_
  obtain ⟨k, S', D', f', M', a', hM, hm, ⟨hth, hans⟩, hR'⟩ := s_ifPlanned l G cyI cyO cyJ h Ad At As Ac Am ao L D T S C V M f (xs (i + 1)) htr hR
  refine gHi (gs := [[(h, .inr (5, [.ref (Ad 0), .ref (At 0), .ref (As 0), .ref (Ac 0), .ref (L 6 0)]))], dyW cyI Ad D, dyW cyI At T, shW cyI As S, ctW cyI Ac C, hiW cyI cyO L V, mdW cyI Am M, [(ao, .inl (cyJ, 1, .inr (.inl (f))))]]) (As := [.ref (h), .int (xs (i + 1)), .ref (ao)]) (rest := []) ⟨hx, hb, hml, hown, hts⟩ hM (vx_cwSW 3 hts gL_law_L_ifPlanned rfl rfl rfl (by decide +kernel) ⟨Nat.le_of_ble_eq_true rfl, Nat.le_of_ble_eq_true rfl⟩) hK hX hP hD hS hA [0, 3, 1, 7] rfl rfl rfl rfl hl.1 rfl (Nat.le_of_ble_eq_true rfl) dL_law_1033 hcs (fun H locs hP hD hS => ?_)
  have hP : va_P G vwCl (cat [[(h, .inr (5, [.ref (Ad 0), .ref (At 0), .ref (As 0), .ref (Ac 0), .ref (L 6 0)]))], dyW cyI Ad D', dyW cyI At T, shW cyI As S', ctW cyI Ac C, hiW cyI cyO L V, mdW cyI Am M, [(ao, .inl (cyJ, 1, .inr (.inl (f'))))]]) H := hP
  have hD : va_D A9 (cat [[(h, .inr (5, [.ref (Ad 0), .ref (At 0), .ref (As 0), .ref (Ac 0), .ref (L 6 0)]))], dyW cyI Ad D', dyW cyI At T, shW cyI As S', ctW cyI Ac C, hiW cyI cyO L V, mdW cyI Am M, [(ao, .inl (cyJ, 1, .inr (.inl (f'))))]]) := hD
  refine lv_istore (lv' := [(5, .int (k)), (4, .int (nI (i))), (3, .ref (ao)), (2, .ref (Am 0)), (1, .ref (h)), (0, .ref (b))]) hx hb dL_law_1036 hl (by decide) rfl (fun ls hl => ?_)
  refine lv_aload_n hx hb dL_law_1038 rfl (lv_at hl 3 rfl) ?_
  refine lv_aload_n hx hb dL_law_1039 rfl (lv_at hl 5 rfl) ?_
  refine lv_iload hx hb dL_law_1040 (lv_at hl 1 rfl) ?_
  refine lv_iconst (v := (1 : Int32)) hx hb dL_law_1042 (by decide) ?_
  refine lv_iadd hx hb dL_law_1043 ?_
  refine top_i (x' := nI (i + 1)) (nI_add (i) (1)) ?_
  refine va_sld hx hb hscr hbl hbA hS (vp_in_nI (n := i + 1) (by omega) (by omega)) dL_law_1044 ?_
  refine top_i (x' := xs (i + 1)) (by rw [nI_clamp (by omega)]) ?_
  refine gVi (gs := [[(h, .inr (5, [.ref (Ad 0), .ref (At 0), .ref (As 0), .ref (Ac 0), .ref (L 6 0)]))], dyW cyI Ad D', dyW cyI At T, shW cyI As S', ctW cyI Ac C, hiW cyI cyO L V, mdW cyI Am M, [(ao, .inl (cyJ, 1, .inr (.inl (f'))))]]) (As := [.int (xs (i + 1))]) (rest := []) ⟨hx, hb, hml, hown, hts⟩ hm (cwV 1 hts gL_law_X6_ifPlanned rfl rfl rfl (by decide +kernel) ⟨Nat.le_of_ble_eq_true rfl, Nat.le_of_ble_eq_true rfl⟩) hK2 hP hD hS hA [6] rfl rfl rfl 0 6 rfl rfl rfl hl.1 rfl (Nat.le_of_ble_eq_true rfl) dL_law_1045 hcs (fun H locs hP hD hS => ?_)
  have hP : va_P G vwCl (cat [[(h, .inr (5, [.ref (Ad 0), .ref (At 0), .ref (As 0), .ref (Ac 0), .ref (L 6 0)]))], dyW cyI Ad D', dyW cyI At T, shW cyI As S', ctW cyI Ac C, hiW cyI cyO L V, mdW cyI Am M', [(ao, .inl (cyJ, 1, .inr (.inl (f'))))]]) H := hP
  have hD : va_D A9 (cat [[(h, .inr (5, [.ref (Ad 0), .ref (At 0), .ref (As 0), .ref (Ac 0), .ref (L 6 0)]))], dyW cyI Ad D', dyW cyI At T, shW cyI As S', ctW cyI Ac C, hiW cyI cyO L V, mdW cyI Am M', [(ao, .inl (cyJ, 1, .inr (.inl (f'))))]]) := hD
  refine lv_istore (lv' := [(6, .int (a')), (5, .int (k)), (4, .int (nI (i))), (3, .ref (ao)), (2, .ref (Am 0)), (1, .ref (h)), (0, .ref (b))]) hx hb dL_law_1048 hl (by decide) rfl (fun ls hl => ?_)
  refine lv_aload_n hx hb dL_law_1050 rfl (lv_at hl 4 rfl) ?_
  refine gVi (gs := [[(h, .inr (5, [.ref (Ad 0), .ref (At 0), .ref (As 0), .ref (Ac 0), .ref (L 6 0)]))], dyW cyI Ad D', dyW cyI At T, shW cyI As S', ctW cyI Ac C, hiW cyI cyO L V, mdW cyI Am M', [(ao, .inl (cyJ, 1, .inr (.inl (f'))))]]) (As := []) (rest := []) ⟨hx, hb, hml, hown, hts⟩ (c_X6_thrown l G cyI cyO Am M') (cwV 0 hts gL_law_X6_thrown rfl rfl rfl (by decide +kernel) ⟨Nat.le_of_ble_eq_true rfl, Nat.le_of_ble_eq_true rfl⟩) hK2 hP hD hS hA [6] rfl rfl rfl 0 6 rfl rfl rfl hl.1 rfl (Nat.le_of_ble_eq_true rfl) dL_law_1051 hcs (fun H locs hP hD hS => ?_)
  have hP : va_P G vwCl (cat [[(h, .inr (5, [.ref (Ad 0), .ref (At 0), .ref (As 0), .ref (Ac 0), .ref (L 6 0)]))], dyW cyI Ad D', dyW cyI At T, shW cyI As S', ctW cyI Ac C, hiW cyI cyO L V, mdW cyI Am M', [(ao, .inl (cyJ, 1, .inr (.inl (f'))))]]) H := hP
  have hD : va_D A9 (cat [[(h, .inr (5, [.ref (Ad 0), .ref (At 0), .ref (As 0), .ref (Ac 0), .ref (L 6 0)]))], dyW cyI Ad D', dyW cyI At T, shW cyI As S', ctW cyI Ac C, hiW cyI cyO L V, mdW cyI Am M', [(ao, .inl (cyJ, 1, .inr (.inl (f'))))]]) := hD
  refine top_i (x' := k) hth ?_
  refine lv_iload hx hb dL_law_1054 (lv_at hl 1 rfl) ?_
  refine lv_icmp_eq (tgt := 1061) hx hb dL_law_1056 (by decide) (fun c_1056 => ?_) (fun c_1056 => ?_)
  · refine lv_iload hx hb dL_law_1061 (lv_at hl 1 rfl) ?_
    refine lv_if_ne (tgt := 1078) hx hb dL_law_1063 (by decide) (fun c_1063 => ?_) (fun c_1063 => ?_)
    · refine lv_goto (tgt := 1444) hx hb dL_law_1078 (by decide) ?_
      exact kk _ _ _ ⟨L, D', T, S', C, V, M', f', hP, hD, hS, lv_sub hl [2, 3, 4, 5, 6] rfl, hR'⟩
    · refine lv_aload_n hx hb dL_law_1066 rfl (lv_at hl 3 rfl) ?_
      refine lv_iconst (v := (0 : Int32)) hx hb dL_law_1067 (by decide) ?_
      refine va_lald (f := f') hx hb hK hP 115 2 rfl rfl in01 dL_law_1068 ?_
      refine top_l (x' := f' 0) rfl ?_
      refine top_l (x' := a'.toInt64) (hans c_1063) ?_
      refine lv_iload hx hb dL_law_1069 (lv_at hl 0 rfl) ?_
      refine lv_i2l (v := a'.toInt64) hx hb dL_law_1071 rfl ?_
      refine W.lcmp hx hb dL_law_1072 ?_
      refine lv_if_eq (tgt := 1078) hx hb dL_law_1073 (by decide) (fun c_1073 => ?_) (fun c_1073 => ?_)
      · refine lv_goto (tgt := 1444) hx hb dL_law_1078 (by decide) ?_
        exact kk _ _ _ ⟨L, D', T, S', C, V, M', f', hP, hD, hS, lv_sub hl [2, 3, 4, 5, 6] rfl, hR'⟩
      · exact absurd (lg_self _) c_1073
  · exact absurd rfl c_1056
set_option maxHeartbeats 4000000 in
set_option maxRecDepth 100000 in
theorem law_reason {p9 : Program} {l : Launch} {e9 : Env} {s9 : State} {m9 : MethodId} {b9 : List Frame} {t9 : Method} {c9 : Code} {A9 : Nat → Prop} {G : va_G} {cyI cyO cyJ : ClassId} {b Ln : Nat} {xs : Nat → Int32} {Q : State → Prop} {h : Nat} {Ad At As Ac Am : Nat → Nat} {ao i cells slots : Nat} {H : Heap} {locs : List Loc} {ls : Array Slot} (hC : LC p9 l s9 m9 c9 A9 G cyI cyO cyJ b Ln xs) (hi : i + 2 < Ln) (hLn : Ln ≤ 1536) (hcs : cells + 1 ≤ 609290 ∧ slots + 6 ≤ 7268235) (hJ : LJ G cyI cyO cyJ s9 A9 b h Ad At As Ac Am ao i H locs ls)
    (kk : ∀ (H : Heap) (locs : List Loc) (ls : Array Slot), LJ G cyI cyO cyJ s9 A9 b h Ad At As Ac Am ao i H locs ls → W p9 l e9 room_1 s9 m9 #[Value.ref b] b9 t9 c9 H locs (cells + 1) (slots + 6) Q (F0 m9 1444 ls [])) :
    W p9 l e9 room_1 s9 m9 #[Value.ref b] b9 t9 c9 H locs cells slots Q (F0 m9 1081 ls []) := by
  obtain ⟨hx, hb, hml, hown, hts, hscr, hbl, hbA, hA, hK, hX, htr⟩ := hC
  obtain ⟨L, D, T, S, C, V, M, f, hP, hD, hS, hl, hR⟩ := hJ
  have hK2 := hK.sub [0, 1] (tys' := TY cyI cyO) rfl
  have hcs0 : cells ≤ 609290 ∧ slots ≤ 7268235 := ⟨by omega, by omega⟩
  have hP : va_P G vwCl (cat [[(h, .inr (5, [.ref (Ad 0), .ref (At 0), .ref (As 0), .ref (Ac 0), .ref (L 6 0)]))], dyW cyI Ad D, dyW cyI At T, shW cyI As S, ctW cyI Ac C, hiW cyI cyO L V, mdW cyI Am M, [(ao, .inl (cyJ, 1, .inr (.inl (f))))]]) H := hP
  have hD : va_D A9 (cat [[(h, .inr (5, [.ref (Ad 0), .ref (At 0), .ref (As 0), .ref (Ac 0), .ref (L 6 0)]))], dyW cyI Ad D, dyW cyI At T, shW cyI As S, ctW cyI Ac C, hiW cyI cyO L V, mdW cyI Am M, [(ao, .inl (cyJ, 1, .inr (.inl (f))))]]) := hD
  refine lv_aload_n hx hb dL_law_1081 rfl (lv_at hl 3 rfl) ?_
  refine lv_aload_n hx hb dL_law_1082 rfl (lv_at hl 4 rfl) ?_
  refine lv_iload hx hb dL_law_1083 (lv_at hl 0 rfl) ?_
  refine lv_iconst (v := (1 : Int32)) hx hb dL_law_1085 (by decide) ?_
  refine lv_iadd hx hb dL_law_1086 ?_
  refine top_i (x' := nI (i + 1)) (nI_add (i) (1)) ?_
  refine va_sld hx hb hscr hbl hbA hS (vp_in_nI (n := i + 1) (by omega) (by omega)) dL_law_1087 ?_
  refine top_i (x' := xs (i + 1)) (by rw [nI_clamp (by omega)]) ?_
  refine lv_aload_n hx hb dL_law_1088 rfl (lv_at hl 1 rfl) ?_
  obtain ⟨k, S', D', f', M', a', hM, hm, ⟨hth, hans⟩, hR'⟩ := s_reason l G cyI cyO cyJ h Ad At As Ac Am ao L D T S C V M f (xs (i + 1)) htr hR
  refine gHi (gs := [[(h, .inr (5, [.ref (Ad 0), .ref (At 0), .ref (As 0), .ref (Ac 0), .ref (L 6 0)]))], dyW cyI Ad D, dyW cyI At T, shW cyI As S, ctW cyI Ac C, hiW cyI cyO L V, mdW cyI Am M, [(ao, .inl (cyJ, 1, .inr (.inl (f))))]]) (As := [.ref (h), .int (xs (i + 1)), .ref (ao)]) (rest := []) ⟨hx, hb, hml, hown, hts⟩ hM (vx_cwSW 3 hts gL_law_L_reason rfl rfl rfl (by decide +kernel) ⟨Nat.le_of_ble_eq_true rfl, Nat.le_of_ble_eq_true rfl⟩) hK hX hP hD hS hA [0, 3, 1, 7] rfl rfl rfl rfl hl.1 rfl (Nat.le_of_ble_eq_true rfl) dL_law_1089 hcs (fun H locs hP hD hS => ?_)
  have hP : va_P G vwCl (cat [[(h, .inr (5, [.ref (Ad 0), .ref (At 0), .ref (As 0), .ref (Ac 0), .ref (L 6 0)]))], dyW cyI Ad D', dyW cyI At T, shW cyI As S', ctW cyI Ac C, hiW cyI cyO L V, mdW cyI Am M, [(ao, .inl (cyJ, 1, .inr (.inl (f'))))]]) H := hP
  have hD : va_D A9 (cat [[(h, .inr (5, [.ref (Ad 0), .ref (At 0), .ref (As 0), .ref (Ac 0), .ref (L 6 0)]))], dyW cyI Ad D', dyW cyI At T, shW cyI As S', ctW cyI Ac C, hiW cyI cyO L V, mdW cyI Am M, [(ao, .inl (cyJ, 1, .inr (.inl (f'))))]]) := hD
  refine lv_istore (lv' := [(5, .int (k)), (4, .int (nI (i))), (3, .ref (ao)), (2, .ref (Am 0)), (1, .ref (h)), (0, .ref (b))]) hx hb dL_law_1092 hl (by decide) rfl (fun ls hl => ?_)
  refine lv_aload_n hx hb dL_law_1094 rfl (lv_at hl 3 rfl) ?_
  refine lv_aload_n hx hb dL_law_1095 rfl (lv_at hl 5 rfl) ?_
  refine lv_iload hx hb dL_law_1096 (lv_at hl 1 rfl) ?_
  refine lv_iconst (v := (1 : Int32)) hx hb dL_law_1098 (by decide) ?_
  refine lv_iadd hx hb dL_law_1099 ?_
  refine top_i (x' := nI (i + 1)) (nI_add (i) (1)) ?_
  refine va_sld hx hb hscr hbl hbA hS (vp_in_nI (n := i + 1) (by omega) (by omega)) dL_law_1100 ?_
  refine top_i (x' := xs (i + 1)) (by rw [nI_clamp (by omega)]) ?_
  refine gVi (gs := [[(h, .inr (5, [.ref (Ad 0), .ref (At 0), .ref (As 0), .ref (Ac 0), .ref (L 6 0)]))], dyW cyI Ad D', dyW cyI At T, shW cyI As S', ctW cyI Ac C, hiW cyI cyO L V, mdW cyI Am M, [(ao, .inl (cyJ, 1, .inr (.inl (f'))))]]) (As := [.int (xs (i + 1))]) (rest := []) ⟨hx, hb, hml, hown, hts⟩ hm (cwV 1 hts gL_law_X6_reason rfl rfl rfl (by decide +kernel) ⟨Nat.le_of_ble_eq_true rfl, Nat.le_of_ble_eq_true rfl⟩) hK2 hP hD hS hA [6] rfl rfl rfl 0 6 rfl rfl rfl hl.1 rfl (Nat.le_of_ble_eq_true rfl) dL_law_1101 hcs (fun H locs hP hD hS => ?_)
  have hP : va_P G vwCl (cat [[(h, .inr (5, [.ref (Ad 0), .ref (At 0), .ref (As 0), .ref (Ac 0), .ref (L 6 0)]))], dyW cyI Ad D', dyW cyI At T, shW cyI As S', ctW cyI Ac C, hiW cyI cyO L V, mdW cyI Am M', [(ao, .inl (cyJ, 1, .inr (.inl (f'))))]]) H := hP
  have hD : va_D A9 (cat [[(h, .inr (5, [.ref (Ad 0), .ref (At 0), .ref (As 0), .ref (Ac 0), .ref (L 6 0)]))], dyW cyI Ad D', dyW cyI At T, shW cyI As S', ctW cyI Ac C, hiW cyI cyO L V, mdW cyI Am M', [(ao, .inl (cyJ, 1, .inr (.inl (f'))))]]) := hD
  refine lv_istore (lv' := [(6, .int (a')), (5, .int (k)), (4, .int (nI (i))), (3, .ref (ao)), (2, .ref (Am 0)), (1, .ref (h)), (0, .ref (b))]) hx hb dL_law_1104 hl (by decide) rfl (fun ls hl => ?_)
  refine lv_aload_n hx hb dL_law_1106 rfl (lv_at hl 4 rfl) ?_
  refine gVi (gs := [[(h, .inr (5, [.ref (Ad 0), .ref (At 0), .ref (As 0), .ref (Ac 0), .ref (L 6 0)]))], dyW cyI Ad D', dyW cyI At T, shW cyI As S', ctW cyI Ac C, hiW cyI cyO L V, mdW cyI Am M', [(ao, .inl (cyJ, 1, .inr (.inl (f'))))]]) (As := []) (rest := []) ⟨hx, hb, hml, hown, hts⟩ (c_X6_thrown l G cyI cyO Am M') (cwV 0 hts gL_law_X6_thrown rfl rfl rfl (by decide +kernel) ⟨Nat.le_of_ble_eq_true rfl, Nat.le_of_ble_eq_true rfl⟩) hK2 hP hD hS hA [6] rfl rfl rfl 0 6 rfl rfl rfl hl.1 rfl (Nat.le_of_ble_eq_true rfl) dL_law_1107 hcs (fun H locs hP hD hS => ?_)
  have hP : va_P G vwCl (cat [[(h, .inr (5, [.ref (Ad 0), .ref (At 0), .ref (As 0), .ref (Ac 0), .ref (L 6 0)]))], dyW cyI Ad D', dyW cyI At T, shW cyI As S', ctW cyI Ac C, hiW cyI cyO L V, mdW cyI Am M', [(ao, .inl (cyJ, 1, .inr (.inl (f'))))]]) H := hP
  have hD : va_D A9 (cat [[(h, .inr (5, [.ref (Ad 0), .ref (At 0), .ref (As 0), .ref (Ac 0), .ref (L 6 0)]))], dyW cyI Ad D', dyW cyI At T, shW cyI As S', ctW cyI Ac C, hiW cyI cyO L V, mdW cyI Am M', [(ao, .inl (cyJ, 1, .inr (.inl (f'))))]]) := hD
  refine top_i (x' := k) hth ?_
  refine lv_iload hx hb dL_law_1110 (lv_at hl 1 rfl) ?_
  refine lv_icmp_eq (tgt := 1117) hx hb dL_law_1112 (by decide) (fun c_1112 => ?_) (fun c_1112 => ?_)
  · refine lv_iload hx hb dL_law_1117 (lv_at hl 1 rfl) ?_
    refine lv_if_ne (tgt := 1134) hx hb dL_law_1119 (by decide) (fun c_1119 => ?_) (fun c_1119 => ?_)
    · refine lv_goto (tgt := 1444) hx hb dL_law_1134 (by decide) ?_
      exact kk _ _ _ ⟨L, D', T, S', C, V, M', f', hP, hD, hS, lv_sub hl [2, 3, 4, 5, 6] rfl, hR'⟩
    · refine lv_aload_n hx hb dL_law_1122 rfl (lv_at hl 3 rfl) ?_
      refine lv_iconst (v := (0 : Int32)) hx hb dL_law_1123 (by decide) ?_
      refine va_lald (f := f') hx hb hK hP 115 2 rfl rfl in01 dL_law_1124 ?_
      refine top_l (x' := f' 0) rfl ?_
      refine top_l (x' := a'.toInt64) (hans c_1119) ?_
      refine lv_iload hx hb dL_law_1125 (lv_at hl 0 rfl) ?_
      refine lv_i2l (v := a'.toInt64) hx hb dL_law_1127 rfl ?_
      refine W.lcmp hx hb dL_law_1128 ?_
      refine lv_if_eq (tgt := 1134) hx hb dL_law_1129 (by decide) (fun c_1129 => ?_) (fun c_1129 => ?_)
      · refine lv_goto (tgt := 1444) hx hb dL_law_1134 (by decide) ?_
        exact kk _ _ _ ⟨L, D', T, S', C, V, M', f', hP, hD, hS, lv_sub hl [2, 3, 4, 5, 6] rfl, hR'⟩
      · exact absurd (lg_self _) c_1129
  · exact absurd rfl c_1112
set_option maxHeartbeats 4000000 in
set_option maxRecDepth 100000 in
theorem law_changesToCome {p9 : Program} {l : Launch} {e9 : Env} {s9 : State} {m9 : MethodId} {b9 : List Frame} {t9 : Method} {c9 : Code} {A9 : Nat → Prop} {G : va_G} {cyI cyO cyJ : ClassId} {b Ln : Nat} {xs : Nat → Int32} {Q : State → Prop} {h : Nat} {Ad At As Ac Am : Nat → Nat} {ao i cells slots : Nat} {H : Heap} {locs : List Loc} {ls : Array Slot} (hC : LC p9 l s9 m9 c9 A9 G cyI cyO cyJ b Ln xs) (hi : i + 2 < Ln) (hLn : Ln ≤ 1536) (hcs : cells + 1 ≤ 609290 ∧ slots + 6 ≤ 7268235) (hJ : LJ G cyI cyO cyJ s9 A9 b h Ad At As Ac Am ao i H locs ls)
    (kk : ∀ (H : Heap) (locs : List Loc) (ls : Array Slot), LJ G cyI cyO cyJ s9 A9 b h Ad At As Ac Am ao i H locs ls → W p9 l e9 room_1 s9 m9 #[Value.ref b] b9 t9 c9 H locs (cells + 1) (slots + 6) Q (F0 m9 1444 ls [])) :
    W p9 l e9 room_1 s9 m9 #[Value.ref b] b9 t9 c9 H locs cells slots Q (F0 m9 1137 ls []) := by
  obtain ⟨hx, hb, hml, hown, hts, hscr, hbl, hbA, hA, hK, hX, htr⟩ := hC
  obtain ⟨L, D, T, S, C, V, M, f, hP, hD, hS, hl, hR⟩ := hJ
  have hK2 := hK.sub [0, 1] (tys' := TY cyI cyO) rfl
  have hcs0 : cells ≤ 609290 ∧ slots ≤ 7268235 := ⟨by omega, by omega⟩
  have hP : va_P G vwCl (cat [[(h, .inr (5, [.ref (Ad 0), .ref (At 0), .ref (As 0), .ref (Ac 0), .ref (L 6 0)]))], dyW cyI Ad D, dyW cyI At T, shW cyI As S, ctW cyI Ac C, hiW cyI cyO L V, mdW cyI Am M, [(ao, .inl (cyJ, 1, .inr (.inl (f))))]]) H := hP
  have hD : va_D A9 (cat [[(h, .inr (5, [.ref (Ad 0), .ref (At 0), .ref (As 0), .ref (Ac 0), .ref (L 6 0)]))], dyW cyI Ad D, dyW cyI At T, shW cyI As S, ctW cyI Ac C, hiW cyI cyO L V, mdW cyI Am M, [(ao, .inl (cyJ, 1, .inr (.inl (f))))]]) := hD
  refine lv_aload_n hx hb dL_law_1137 rfl (lv_at hl 3 rfl) ?_
  obtain ⟨r, S', M', hM, hm, hR'⟩ := q_changesToCome l G cyI cyO h Ad At As Ac Am L D T S C V M hR
  refine gVi (gs := [[(h, .inr (5, [.ref (Ad 0), .ref (At 0), .ref (As 0), .ref (Ac 0), .ref (L 6 0)]))], dyW cyI Ad D, dyW cyI At T, shW cyI As S, ctW cyI Ac C, hiW cyI cyO L V, mdW cyI Am M, [(ao, .inl (cyJ, 1, .inr (.inl (f))))]]) (As := []) (rest := []) ⟨hx, hb, hml, hown, hts⟩ hM (cwV 0 hts gL_law_X5_changesToCome rfl rfl rfl (by decide +kernel) ⟨Nat.le_of_ble_eq_true rfl, Nat.le_of_ble_eq_true rfl⟩) hK2 hP hD hS hA [0, 3, 1] rfl rfl rfl 0 5 rfl rfl rfl hl.1 rfl (Nat.le_of_ble_eq_true rfl) dL_law_1138 hcs0 (fun H locs hP hD hS => ?_)
  have hP : va_P G vwCl (cat [[(h, .inr (5, [.ref (Ad 0), .ref (At 0), .ref (As 0), .ref (Ac 0), .ref (L 6 0)]))], dyW cyI Ad D, dyW cyI At T, shW cyI As S', ctW cyI Ac C, hiW cyI cyO L V, mdW cyI Am M, [(ao, .inl (cyJ, 1, .inr (.inl (f))))]]) H := hP
  have hD : va_D A9 (cat [[(h, .inr (5, [.ref (Ad 0), .ref (At 0), .ref (As 0), .ref (Ac 0), .ref (L 6 0)]))], dyW cyI Ad D, dyW cyI At T, shW cyI As S', ctW cyI Ac C, hiW cyI cyO L V, mdW cyI Am M, [(ao, .inl (cyJ, 1, .inr (.inl (f))))]]) := hD
  refine lv_aload_n hx hb dL_law_1141 rfl (lv_at hl 2 rfl) ?_
  refine gVi (gs := [[(h, .inr (5, [.ref (Ad 0), .ref (At 0), .ref (As 0), .ref (Ac 0), .ref (L 6 0)]))], dyW cyI Ad D, dyW cyI At T, shW cyI As S', ctW cyI Ac C, hiW cyI cyO L V, mdW cyI Am M, [(ao, .inl (cyJ, 1, .inr (.inl (f))))]]) (As := []) (rest := [.int (r)]) ⟨hx, hb, hml, hown, hts⟩ hm (cwV 0 hts gL_law_X6_changesToCome rfl rfl rfl (by decide +kernel) ⟨Nat.le_of_ble_eq_true rfl, Nat.le_of_ble_eq_true rfl⟩) hK2 hP hD hS hA [6] rfl rfl rfl 0 6 rfl rfl rfl hl.1 rfl (Nat.le_of_ble_eq_true rfl) dL_law_1142 hcs0 (fun H locs hP hD hS => ?_)
  have hP : va_P G vwCl (cat [[(h, .inr (5, [.ref (Ad 0), .ref (At 0), .ref (As 0), .ref (Ac 0), .ref (L 6 0)]))], dyW cyI Ad D, dyW cyI At T, shW cyI As S', ctW cyI Ac C, hiW cyI cyO L V, mdW cyI Am M', [(ao, .inl (cyJ, 1, .inr (.inl (f))))]]) H := hP
  have hD : va_D A9 (cat [[(h, .inr (5, [.ref (Ad 0), .ref (At 0), .ref (As 0), .ref (Ac 0), .ref (L 6 0)]))], dyW cyI Ad D, dyW cyI At T, shW cyI As S', ctW cyI Ac C, hiW cyI cyO L V, mdW cyI Am M', [(ao, .inl (cyJ, 1, .inr (.inl (f))))]]) := hD
  refine lv_icmp_eq (tgt := 1444) hx hb dL_law_1145 (by decide) (fun c_1145 => ?_) (fun c_1145 => ?_)
  · refine W.widen (k := cells + 1) (n := slots + 6) (Nat.le_add_right _ _) (Nat.le_add_right _ _) ?_
    exact kk _ _ _ ⟨L, D, T, S', C, V, M', f, hP, hD, hS, lv_sub hl [0, 1, 2, 3, 4] rfl, hR'⟩
  · exact absurd rfl c_1145
set_option maxHeartbeats 4000000 in
set_option maxRecDepth 100000 in
theorem law_changesIf {p9 : Program} {l : Launch} {e9 : Env} {s9 : State} {m9 : MethodId} {b9 : List Frame} {t9 : Method} {c9 : Code} {A9 : Nat → Prop} {G : va_G} {cyI cyO cyJ : ClassId} {b Ln : Nat} {xs : Nat → Int32} {Q : State → Prop} {h : Nat} {Ad At As Ac Am : Nat → Nat} {ao i cells slots : Nat} {H : Heap} {locs : List Loc} {ls : Array Slot} (hC : LC p9 l s9 m9 c9 A9 G cyI cyO cyJ b Ln xs) (hi : i + 2 < Ln) (hLn : Ln ≤ 1536) (hcs : cells + 1 ≤ 609290 ∧ slots + 6 ≤ 7268235) (hJ : LJ G cyI cyO cyJ s9 A9 b h Ad At As Ac Am ao i H locs ls)
    (kk : ∀ (H : Heap) (locs : List Loc) (ls : Array Slot), LJ G cyI cyO cyJ s9 A9 b h Ad At As Ac Am ao i H locs ls → W p9 l e9 room_1 s9 m9 #[Value.ref b] b9 t9 c9 H locs (cells + 1) (slots + 6) Q (F0 m9 1444 ls [])) :
    W p9 l e9 room_1 s9 m9 #[Value.ref b] b9 t9 c9 H locs cells slots Q (F0 m9 1150 ls []) := by
  obtain ⟨hx, hb, hml, hown, hts, hscr, hbl, hbA, hA, hK, hX, htr⟩ := hC
  obtain ⟨L, D, T, S, C, V, M, f, hP, hD, hS, hl, hR⟩ := hJ
  have hK2 := hK.sub [0, 1] (tys' := TY cyI cyO) rfl
  have hcs0 : cells ≤ 609290 ∧ slots ≤ 7268235 := ⟨by omega, by omega⟩
  have hP : va_P G vwCl (cat [[(h, .inr (5, [.ref (Ad 0), .ref (At 0), .ref (As 0), .ref (Ac 0), .ref (L 6 0)]))], dyW cyI Ad D, dyW cyI At T, shW cyI As S, ctW cyI Ac C, hiW cyI cyO L V, mdW cyI Am M, [(ao, .inl (cyJ, 1, .inr (.inl (f))))]]) H := hP
  have hD : va_D A9 (cat [[(h, .inr (5, [.ref (Ad 0), .ref (At 0), .ref (As 0), .ref (Ac 0), .ref (L 6 0)]))], dyW cyI Ad D, dyW cyI At T, shW cyI As S, ctW cyI Ac C, hiW cyI cyO L V, mdW cyI Am M, [(ao, .inl (cyJ, 1, .inr (.inl (f))))]]) := hD
  refine lv_aload_n hx hb dL_law_1150 rfl (lv_at hl 3 rfl) ?_
  refine lv_aload_n hx hb dL_law_1151 rfl (lv_at hl 4 rfl) ?_
  refine lv_iload hx hb dL_law_1152 (lv_at hl 0 rfl) ?_
  refine lv_iconst (v := (1 : Int32)) hx hb dL_law_1154 (by decide) ?_
  refine lv_iadd hx hb dL_law_1155 ?_
  refine top_i (x' := nI (i + 1)) (nI_add (i) (1)) ?_
  refine va_sld hx hb hscr hbl hbA hS (vp_in_nI (n := i + 1) (by omega) (by omega)) dL_law_1156 ?_
  refine top_i (x' := xs (i + 1)) (by rw [nI_clamp (by omega)]) ?_
  refine lv_aload_n hx hb dL_law_1157 rfl (lv_at hl 1 rfl) ?_
  obtain ⟨k, S', T', D', f', M', a', hM, hm, ⟨hth, hans⟩, hR'⟩ := s_changesIf l G cyI cyO cyJ h Ad At As Ac Am ao L D T S C V M f (xs (i + 1)) htr hR
  refine gHi (gs := [[(h, .inr (5, [.ref (Ad 0), .ref (At 0), .ref (As 0), .ref (Ac 0), .ref (L 6 0)]))], dyW cyI Ad D, dyW cyI At T, shW cyI As S, ctW cyI Ac C, hiW cyI cyO L V, mdW cyI Am M, [(ao, .inl (cyJ, 1, .inr (.inl (f))))]]) (As := [.ref (h), .int (xs (i + 1)), .ref (ao)]) (rest := []) ⟨hx, hb, hml, hown, hts⟩ hM (vx_cwSW 3 hts gL_law_L_changesIf rfl rfl rfl (by decide +kernel) ⟨Nat.le_of_ble_eq_true rfl, Nat.le_of_ble_eq_true rfl⟩) hK hX hP hD hS hA [0, 3, 2, 1, 7] rfl rfl rfl rfl hl.1 rfl (Nat.le_of_ble_eq_true rfl) dL_law_1158 hcs (fun H locs hP hD hS => ?_)
  have hP : va_P G vwCl (cat [[(h, .inr (5, [.ref (Ad 0), .ref (At 0), .ref (As 0), .ref (Ac 0), .ref (L 6 0)]))], dyW cyI Ad D', dyW cyI At T', shW cyI As S', ctW cyI Ac C, hiW cyI cyO L V, mdW cyI Am M, [(ao, .inl (cyJ, 1, .inr (.inl (f'))))]]) H := hP
  have hD : va_D A9 (cat [[(h, .inr (5, [.ref (Ad 0), .ref (At 0), .ref (As 0), .ref (Ac 0), .ref (L 6 0)]))], dyW cyI Ad D', dyW cyI At T', shW cyI As S', ctW cyI Ac C, hiW cyI cyO L V, mdW cyI Am M, [(ao, .inl (cyJ, 1, .inr (.inl (f'))))]]) := hD
  refine lv_istore (lv' := [(5, .int (k)), (4, .int (nI (i))), (3, .ref (ao)), (2, .ref (Am 0)), (1, .ref (h)), (0, .ref (b))]) hx hb dL_law_1161 hl (by decide) rfl (fun ls hl => ?_)
  refine lv_aload_n hx hb dL_law_1163 rfl (lv_at hl 3 rfl) ?_
  refine lv_aload_n hx hb dL_law_1164 rfl (lv_at hl 5 rfl) ?_
  refine lv_iload hx hb dL_law_1165 (lv_at hl 1 rfl) ?_
  refine lv_iconst (v := (1 : Int32)) hx hb dL_law_1167 (by decide) ?_
  refine lv_iadd hx hb dL_law_1168 ?_
  refine top_i (x' := nI (i + 1)) (nI_add (i) (1)) ?_
  refine va_sld hx hb hscr hbl hbA hS (vp_in_nI (n := i + 1) (by omega) (by omega)) dL_law_1169 ?_
  refine top_i (x' := xs (i + 1)) (by rw [nI_clamp (by omega)]) ?_
  refine gVi (gs := [[(h, .inr (5, [.ref (Ad 0), .ref (At 0), .ref (As 0), .ref (Ac 0), .ref (L 6 0)]))], dyW cyI Ad D', dyW cyI At T', shW cyI As S', ctW cyI Ac C, hiW cyI cyO L V, mdW cyI Am M, [(ao, .inl (cyJ, 1, .inr (.inl (f'))))]]) (As := [.int (xs (i + 1))]) (rest := []) ⟨hx, hb, hml, hown, hts⟩ hm (cwV 1 hts gL_law_X6_changesIf rfl rfl rfl (by decide +kernel) ⟨Nat.le_of_ble_eq_true rfl, Nat.le_of_ble_eq_true rfl⟩) hK2 hP hD hS hA [6] rfl rfl rfl 0 6 rfl rfl rfl hl.1 rfl (Nat.le_of_ble_eq_true rfl) dL_law_1170 hcs (fun H locs hP hD hS => ?_)
  have hP : va_P G vwCl (cat [[(h, .inr (5, [.ref (Ad 0), .ref (At 0), .ref (As 0), .ref (Ac 0), .ref (L 6 0)]))], dyW cyI Ad D', dyW cyI At T', shW cyI As S', ctW cyI Ac C, hiW cyI cyO L V, mdW cyI Am M', [(ao, .inl (cyJ, 1, .inr (.inl (f'))))]]) H := hP
  have hD : va_D A9 (cat [[(h, .inr (5, [.ref (Ad 0), .ref (At 0), .ref (As 0), .ref (Ac 0), .ref (L 6 0)]))], dyW cyI Ad D', dyW cyI At T', shW cyI As S', ctW cyI Ac C, hiW cyI cyO L V, mdW cyI Am M', [(ao, .inl (cyJ, 1, .inr (.inl (f'))))]]) := hD
  refine lv_istore (lv' := [(6, .int (a')), (5, .int (k)), (4, .int (nI (i))), (3, .ref (ao)), (2, .ref (Am 0)), (1, .ref (h)), (0, .ref (b))]) hx hb dL_law_1173 hl (by decide) rfl (fun ls hl => ?_)
  refine lv_aload_n hx hb dL_law_1175 rfl (lv_at hl 4 rfl) ?_
  refine gVi (gs := [[(h, .inr (5, [.ref (Ad 0), .ref (At 0), .ref (As 0), .ref (Ac 0), .ref (L 6 0)]))], dyW cyI Ad D', dyW cyI At T', shW cyI As S', ctW cyI Ac C, hiW cyI cyO L V, mdW cyI Am M', [(ao, .inl (cyJ, 1, .inr (.inl (f'))))]]) (As := []) (rest := []) ⟨hx, hb, hml, hown, hts⟩ (c_X6_thrown l G cyI cyO Am M') (cwV 0 hts gL_law_X6_thrown rfl rfl rfl (by decide +kernel) ⟨Nat.le_of_ble_eq_true rfl, Nat.le_of_ble_eq_true rfl⟩) hK2 hP hD hS hA [6] rfl rfl rfl 0 6 rfl rfl rfl hl.1 rfl (Nat.le_of_ble_eq_true rfl) dL_law_1176 hcs (fun H locs hP hD hS => ?_)
  have hP : va_P G vwCl (cat [[(h, .inr (5, [.ref (Ad 0), .ref (At 0), .ref (As 0), .ref (Ac 0), .ref (L 6 0)]))], dyW cyI Ad D', dyW cyI At T', shW cyI As S', ctW cyI Ac C, hiW cyI cyO L V, mdW cyI Am M', [(ao, .inl (cyJ, 1, .inr (.inl (f'))))]]) H := hP
  have hD : va_D A9 (cat [[(h, .inr (5, [.ref (Ad 0), .ref (At 0), .ref (As 0), .ref (Ac 0), .ref (L 6 0)]))], dyW cyI Ad D', dyW cyI At T', shW cyI As S', ctW cyI Ac C, hiW cyI cyO L V, mdW cyI Am M', [(ao, .inl (cyJ, 1, .inr (.inl (f'))))]]) := hD
  refine top_i (x' := k) hth ?_
  refine lv_iload hx hb dL_law_1179 (lv_at hl 1 rfl) ?_
  refine lv_icmp_eq (tgt := 1186) hx hb dL_law_1181 (by decide) (fun c_1181 => ?_) (fun c_1181 => ?_)
  · refine lv_iload hx hb dL_law_1186 (lv_at hl 1 rfl) ?_
    refine lv_if_ne (tgt := 1203) hx hb dL_law_1188 (by decide) (fun c_1188 => ?_) (fun c_1188 => ?_)
    · refine lv_goto (tgt := 1444) hx hb dL_law_1203 (by decide) ?_
      exact kk _ _ _ ⟨L, D', T', S', C, V, M', f', hP, hD, hS, lv_sub hl [2, 3, 4, 5, 6] rfl, hR'⟩
    · refine lv_aload_n hx hb dL_law_1191 rfl (lv_at hl 3 rfl) ?_
      refine lv_iconst (v := (0 : Int32)) hx hb dL_law_1192 (by decide) ?_
      refine va_lald (f := f') hx hb hK hP 115 2 rfl rfl in01 dL_law_1193 ?_
      refine top_l (x' := f' 0) rfl ?_
      refine top_l (x' := a'.toInt64) (hans c_1188) ?_
      refine lv_iload hx hb dL_law_1194 (lv_at hl 0 rfl) ?_
      refine lv_i2l (v := a'.toInt64) hx hb dL_law_1196 rfl ?_
      refine W.lcmp hx hb dL_law_1197 ?_
      refine lv_if_eq (tgt := 1203) hx hb dL_law_1198 (by decide) (fun c_1198 => ?_) (fun c_1198 => ?_)
      · refine lv_goto (tgt := 1444) hx hb dL_law_1203 (by decide) ?_
        exact kk _ _ _ ⟨L, D', T', S', C, V, M', f', hP, hD, hS, lv_sub hl [2, 3, 4, 5, 6] rfl, hR'⟩
      · exact absurd (lg_self _) c_1198
  · exact absurd rfl c_1181
set_option maxHeartbeats 4000000 in
set_option maxRecDepth 100000 in
theorem law_unevenness {p9 : Program} {l : Launch} {e9 : Env} {s9 : State} {m9 : MethodId} {b9 : List Frame} {t9 : Method} {c9 : Code} {A9 : Nat → Prop} {G : va_G} {cyI cyO cyJ : ClassId} {b Ln : Nat} {xs : Nat → Int32} {Q : State → Prop} {h : Nat} {Ad At As Ac Am : Nat → Nat} {ao i cells slots : Nat} {H : Heap} {locs : List Loc} {ls : Array Slot} (hC : LC p9 l s9 m9 c9 A9 G cyI cyO cyJ b Ln xs) (hi : i + 2 < Ln) (hLn : Ln ≤ 1536) (hcs : cells + 1 ≤ 609290 ∧ slots + 6 ≤ 7268235) (hJ : LJ G cyI cyO cyJ s9 A9 b h Ad At As Ac Am ao i H locs ls)
    (kk : ∀ (H : Heap) (locs : List Loc) (ls : Array Slot), LJ G cyI cyO cyJ s9 A9 b h Ad At As Ac Am ao i H locs ls → W p9 l e9 room_1 s9 m9 #[Value.ref b] b9 t9 c9 H locs (cells + 1) (slots + 6) Q (F0 m9 1444 ls [])) :
    W p9 l e9 room_1 s9 m9 #[Value.ref b] b9 t9 c9 H locs cells slots Q (F0 m9 1206 ls []) := by
  obtain ⟨hx, hb, hml, hown, hts, hscr, hbl, hbA, hA, hK, hX, htr⟩ := hC
  obtain ⟨L, D, T, S, C, V, M, f, hP, hD, hS, hl, hR⟩ := hJ
  have hK2 := hK.sub [0, 1] (tys' := TY cyI cyO) rfl
  have hcs0 : cells ≤ 609290 ∧ slots ≤ 7268235 := ⟨by omega, by omega⟩
  have hP : va_P G vwCl (cat [[(h, .inr (5, [.ref (Ad 0), .ref (At 0), .ref (As 0), .ref (Ac 0), .ref (L 6 0)]))], dyW cyI Ad D, dyW cyI At T, shW cyI As S, ctW cyI Ac C, hiW cyI cyO L V, mdW cyI Am M, [(ao, .inl (cyJ, 1, .inr (.inl (f))))]]) H := hP
  have hD : va_D A9 (cat [[(h, .inr (5, [.ref (Ad 0), .ref (At 0), .ref (As 0), .ref (Ac 0), .ref (L 6 0)]))], dyW cyI Ad D, dyW cyI At T, shW cyI As S, ctW cyI Ac C, hiW cyI cyO L V, mdW cyI Am M, [(ao, .inl (cyJ, 1, .inr (.inl (f))))]]) := hD
  refine lv_aload_n hx hb dL_law_1206 rfl (lv_at hl 3 rfl) ?_
  obtain ⟨r, M', hM, hm, hR'⟩ := q_unevenness l G cyI cyO h Ad At As Ac Am L D T S C V M hR
  refine gVd (gs := [[(h, .inr (5, [.ref (Ad 0), .ref (At 0), .ref (As 0), .ref (Ac 0), .ref (L 6 0)]))], dyW cyI Ad D, dyW cyI At T, shW cyI As S, ctW cyI Ac C, hiW cyI cyO L V, mdW cyI Am M, [(ao, .inl (cyJ, 1, .inr (.inl (f))))]]) (As := []) (rest := []) ⟨hx, hb, hml, hown, hts⟩ hM (cwV 0 hts gL_law_X5_unevenness rfl rfl rfl (by decide +kernel) ⟨Nat.le_of_ble_eq_true rfl, Nat.le_of_ble_eq_true rfl⟩) hK2 hP hD hS hA [0, 1] rfl rfl rfl 0 5 rfl rfl rfl hl.1 rfl (Nat.le_of_ble_eq_true rfl) dL_law_1207 hcs0 (fun H locs hP hD hS => ?_)
  have hP : va_P G vwCl (cat [[(h, .inr (5, [.ref (Ad 0), .ref (At 0), .ref (As 0), .ref (Ac 0), .ref (L 6 0)]))], dyW cyI Ad D, dyW cyI At T, shW cyI As S, ctW cyI Ac C, hiW cyI cyO L V, mdW cyI Am M, [(ao, .inl (cyJ, 1, .inr (.inl (f))))]]) H := hP
  have hD : va_D A9 (cat [[(h, .inr (5, [.ref (Ad 0), .ref (At 0), .ref (As 0), .ref (Ac 0), .ref (L 6 0)]))], dyW cyI Ad D, dyW cyI At T, shW cyI As S, ctW cyI Ac C, hiW cyI cyO L V, mdW cyI Am M, [(ao, .inl (cyJ, 1, .inr (.inl (f))))]]) := hD
  refine lv_dstore (lv' := [(5, .double (r)), (4, .int (nI (i))), (3, .ref (ao)), (2, .ref (Am 0)), (1, .ref (h)), (0, .ref (b))]) hx hb dL_law_1210 hl (by decide) rfl (fun ls hl => ?_)
  refine lv_aload_n hx hb dL_law_1212 rfl (lv_at hl 3 rfl) ?_
  refine gVd (gs := [[(h, .inr (5, [.ref (Ad 0), .ref (At 0), .ref (As 0), .ref (Ac 0), .ref (L 6 0)]))], dyW cyI Ad D, dyW cyI At T, shW cyI As S, ctW cyI Ac C, hiW cyI cyO L V, mdW cyI Am M, [(ao, .inl (cyJ, 1, .inr (.inl (f))))]]) (As := []) (rest := []) ⟨hx, hb, hml, hown, hts⟩ hm (cwV 0 hts gL_law_X6_unevenness rfl rfl rfl (by decide +kernel) ⟨Nat.le_of_ble_eq_true rfl, Nat.le_of_ble_eq_true rfl⟩) hK2 hP hD hS hA [6] rfl rfl rfl 0 6 rfl rfl rfl hl.1 rfl (Nat.le_of_ble_eq_true rfl) dL_law_1213 hcs0 (fun H locs hP hD hS => ?_)
  have hP : va_P G vwCl (cat [[(h, .inr (5, [.ref (Ad 0), .ref (At 0), .ref (As 0), .ref (Ac 0), .ref (L 6 0)]))], dyW cyI Ad D, dyW cyI At T, shW cyI As S, ctW cyI Ac C, hiW cyI cyO L V, mdW cyI Am M', [(ao, .inl (cyJ, 1, .inr (.inl (f))))]]) H := hP
  have hD : va_D A9 (cat [[(h, .inr (5, [.ref (Ad 0), .ref (At 0), .ref (As 0), .ref (Ac 0), .ref (L 6 0)]))], dyW cyI Ad D, dyW cyI At T, shW cyI As S, ctW cyI Ac C, hiW cyI cyO L V, mdW cyI Am M', [(ao, .inl (cyJ, 1, .inr (.inl (f))))]]) := hD
  refine lv_dstore (lv' := [(7, .double (r)), (5, .double (r)), (4, .int (nI (i))), (3, .ref (ao)), (2, .ref (Am 0)), (1, .ref (h)), (0, .ref (b))]) hx hb dL_law_1216 hl (by decide) rfl (fun ls hl => ?_)
  refine lv_dload hx hb dL_law_1218 (lv_at hl 1 rfl) ?_
  refine lv_dload hx hb dL_law_1220 (lv_at hl 0 rfl) ?_
  refine lv_dcmp hx hb dL_law_1222 ?_
  refine lv_if_eq (tgt := 1244) hx hb dL_law_1223 (by decide) (fun c_1223 => ?_) (fun c_1223 => ?_)
  · refine lv_goto (tgt := 1444) hx hb dL_law_1244 (by decide) ?_
    refine W.widen (k := cells + 1) (n := slots + 6) (Nat.le_add_right _ _) (Nat.le_add_right _ _) ?_
    exact kk _ _ _ ⟨L, D, T, S, C, V, M', f, hP, hD, hS, lv_sub hl [2, 3, 4, 5, 6] rfl, hR'⟩
  · refine lv_dload hx hb dL_law_1226 (lv_at hl 1 rfl) ?_
    refine lv_dload hx hb dL_law_1228 (lv_at hl 1 rfl) ?_
    refine lv_dcmp hx hb dL_law_1230 ?_
    refine lv_if_eq (tgt := 1242) hx hb dL_law_1231 (by decide) (fun c_1231 => ?_) (fun c_1231 => ?_)
    · exact absurd c_1231 c_1223
    · refine lv_dload hx hb dL_law_1234 (lv_at hl 0 rfl) ?_
      refine lv_dload hx hb dL_law_1236 (lv_at hl 0 rfl) ?_
      refine lv_dcmp hx hb dL_law_1238 ?_
      refine lv_if_ne (tgt := 1244) hx hb dL_law_1239 (by decide) (fun c_1239 => ?_) (fun c_1239 => ?_)
      · refine lv_goto (tgt := 1444) hx hb dL_law_1244 (by decide) ?_
        refine W.widen (k := cells + 1) (n := slots + 6) (Nat.le_add_right _ _) (Nat.le_add_right _ _) ?_
        exact kk _ _ _ ⟨L, D, T, S, C, V, M', f, hP, hD, hS, lv_sub hl [2, 3, 4, 5, 6] rfl, hR'⟩
      · exact absurd c_1239 c_1223
set_option maxHeartbeats 4000000 in
set_option maxRecDepth 100000 in
theorem law_append {p9 : Program} {l : Launch} {e9 : Env} {s9 : State} {m9 : MethodId} {b9 : List Frame} {t9 : Method} {c9 : Code} {A9 : Nat → Prop} {G : va_G} {cyI cyO cyJ : ClassId} {b Ln : Nat} {xs : Nat → Int32} {Q : State → Prop} {h : Nat} {Ad At As Ac Am : Nat → Nat} {ao i cells slots : Nat} {H : Heap} {locs : List Loc} {ls : Array Slot} (hC : LC p9 l s9 m9 c9 A9 G cyI cyO cyJ b Ln xs) (hi : i + 2 < Ln) (hLn : Ln ≤ 1536) (hcs : cells + 1 ≤ 609290 ∧ slots + 6 ≤ 7268235) (hJ : LJ G cyI cyO cyJ s9 A9 b h Ad At As Ac Am ao i H locs ls)
    (kk : ∀ (H : Heap) (locs : List Loc) (ls : Array Slot), LJ G cyI cyO cyJ s9 A9 b h Ad At As Ac Am ao i H locs ls → W p9 l e9 room_1 s9 m9 #[Value.ref b] b9 t9 c9 H locs (cells + 1) (slots + 6) Q (F0 m9 1444 ls [])) :
    W p9 l e9 room_1 s9 m9 #[Value.ref b] b9 t9 c9 H locs cells slots Q (F0 m9 1247 ls []) := by
  obtain ⟨hx, hb, hml, hown, hts, hscr, hbl, hbA, hA, hK, hX, htr⟩ := hC
  obtain ⟨L, D, T, S, C, V, M, f, hP, hD, hS, hl, hR⟩ := hJ
  have hK2 := hK.sub [0, 1] (tys' := TY cyI cyO) rfl
  have hcs0 : cells ≤ 609290 ∧ slots ≤ 7268235 := ⟨by omega, by omega⟩
  have hP : va_P G vwCl (cat [[(h, .inr (5, [.ref (Ad 0), .ref (At 0), .ref (As 0), .ref (Ac 0), .ref (L 6 0)]))], dyW cyI Ad D, dyW cyI At T, shW cyI As S, ctW cyI Ac C, hiW cyI cyO L V, mdW cyI Am M, [(ao, .inl (cyJ, 1, .inr (.inl (f))))]]) H := hP
  have hD : va_D A9 (cat [[(h, .inr (5, [.ref (Ad 0), .ref (At 0), .ref (As 0), .ref (Ac 0), .ref (L 6 0)]))], dyW cyI Ad D, dyW cyI At T, shW cyI As S, ctW cyI Ac C, hiW cyI cyO L V, mdW cyI Am M, [(ao, .inl (cyJ, 1, .inr (.inl (f))))]]) := hD
  refine lv_aload_n hx hb dL_law_1247 rfl (lv_at hl 3 rfl) ?_
  refine lv_aload_n hx hb dL_law_1248 rfl (lv_at hl 4 rfl) ?_
  refine lv_iload hx hb dL_law_1249 (lv_at hl 0 rfl) ?_
  refine lv_iconst (v := (1 : Int32)) hx hb dL_law_1251 (by decide) ?_
  refine lv_iadd hx hb dL_law_1252 ?_
  refine top_i (x' := nI (i + 1)) (nI_add (i) (1)) ?_
  refine va_sld hx hb hscr hbl hbA hS (vp_in_nI (n := i + 1) (by omega) (by omega)) dL_law_1253 ?_
  refine top_i (x' := xs (i + 1)) (by rw [nI_clamp (by omega)]) ?_
  refine lv_aload_n hx hb dL_law_1254 rfl (lv_at hl 1 rfl) ?_
  obtain ⟨k, C', f', M', a', hM, hm, ⟨hth, hans⟩, hR'⟩ := s_append l G cyI cyO cyJ h Ad At As Ac Am ao L D T S C V M f (xs (i + 1)) htr hR
  refine gHi (gs := [[(h, .inr (5, [.ref (Ad 0), .ref (At 0), .ref (As 0), .ref (Ac 0), .ref (L 6 0)]))], dyW cyI Ad D, dyW cyI At T, shW cyI As S, ctW cyI Ac C, hiW cyI cyO L V, mdW cyI Am M, [(ao, .inl (cyJ, 1, .inr (.inl (f))))]]) (As := [.ref (h), .int (xs (i + 1)), .ref (ao)]) (rest := []) ⟨hx, hb, hml, hown, hts⟩ hM (vx_cwSW 3 hts gL_law_L_append rfl rfl rfl (by decide +kernel) ⟨Nat.le_of_ble_eq_true rfl, Nat.le_of_ble_eq_true rfl⟩) hK hX hP hD hS hA [0, 4, 7] rfl rfl rfl rfl hl.1 rfl (Nat.le_of_ble_eq_true rfl) dL_law_1255 hcs (fun H locs hP hD hS => ?_)
  have hP : va_P G vwCl (cat [[(h, .inr (5, [.ref (Ad 0), .ref (At 0), .ref (As 0), .ref (Ac 0), .ref (L 6 0)]))], dyW cyI Ad D, dyW cyI At T, shW cyI As S, ctW cyI Ac C', hiW cyI cyO L V, mdW cyI Am M, [(ao, .inl (cyJ, 1, .inr (.inl (f'))))]]) H := hP
  have hD : va_D A9 (cat [[(h, .inr (5, [.ref (Ad 0), .ref (At 0), .ref (As 0), .ref (Ac 0), .ref (L 6 0)]))], dyW cyI Ad D, dyW cyI At T, shW cyI As S, ctW cyI Ac C', hiW cyI cyO L V, mdW cyI Am M, [(ao, .inl (cyJ, 1, .inr (.inl (f'))))]]) := hD
  refine lv_istore (lv' := [(5, .int (k)), (4, .int (nI (i))), (3, .ref (ao)), (2, .ref (Am 0)), (1, .ref (h)), (0, .ref (b))]) hx hb dL_law_1258 hl (by decide) rfl (fun ls hl => ?_)
  refine lv_aload_n hx hb dL_law_1260 rfl (lv_at hl 3 rfl) ?_
  refine lv_aload_n hx hb dL_law_1261 rfl (lv_at hl 5 rfl) ?_
  refine lv_iload hx hb dL_law_1262 (lv_at hl 1 rfl) ?_
  refine lv_iconst (v := (1 : Int32)) hx hb dL_law_1264 (by decide) ?_
  refine lv_iadd hx hb dL_law_1265 ?_
  refine top_i (x' := nI (i + 1)) (nI_add (i) (1)) ?_
  refine va_sld hx hb hscr hbl hbA hS (vp_in_nI (n := i + 1) (by omega) (by omega)) dL_law_1266 ?_
  refine top_i (x' := xs (i + 1)) (by rw [nI_clamp (by omega)]) ?_
  refine gVi (gs := [[(h, .inr (5, [.ref (Ad 0), .ref (At 0), .ref (As 0), .ref (Ac 0), .ref (L 6 0)]))], dyW cyI Ad D, dyW cyI At T, shW cyI As S, ctW cyI Ac C', hiW cyI cyO L V, mdW cyI Am M, [(ao, .inl (cyJ, 1, .inr (.inl (f'))))]]) (As := [.int (xs (i + 1))]) (rest := []) ⟨hx, hb, hml, hown, hts⟩ hm (cwV 1 hts gL_law_X6_append rfl rfl rfl (by decide +kernel) ⟨Nat.le_of_ble_eq_true rfl, Nat.le_of_ble_eq_true rfl⟩) hK2 hP hD hS hA [6] rfl rfl rfl 0 6 rfl rfl rfl hl.1 rfl (Nat.le_of_ble_eq_true rfl) dL_law_1267 hcs (fun H locs hP hD hS => ?_)
  have hP : va_P G vwCl (cat [[(h, .inr (5, [.ref (Ad 0), .ref (At 0), .ref (As 0), .ref (Ac 0), .ref (L 6 0)]))], dyW cyI Ad D, dyW cyI At T, shW cyI As S, ctW cyI Ac C', hiW cyI cyO L V, mdW cyI Am M', [(ao, .inl (cyJ, 1, .inr (.inl (f'))))]]) H := hP
  have hD : va_D A9 (cat [[(h, .inr (5, [.ref (Ad 0), .ref (At 0), .ref (As 0), .ref (Ac 0), .ref (L 6 0)]))], dyW cyI Ad D, dyW cyI At T, shW cyI As S, ctW cyI Ac C', hiW cyI cyO L V, mdW cyI Am M', [(ao, .inl (cyJ, 1, .inr (.inl (f'))))]]) := hD
  refine lv_istore (lv' := [(6, .int (a')), (5, .int (k)), (4, .int (nI (i))), (3, .ref (ao)), (2, .ref (Am 0)), (1, .ref (h)), (0, .ref (b))]) hx hb dL_law_1270 hl (by decide) rfl (fun ls hl => ?_)
  refine lv_aload_n hx hb dL_law_1272 rfl (lv_at hl 4 rfl) ?_
  refine gVi (gs := [[(h, .inr (5, [.ref (Ad 0), .ref (At 0), .ref (As 0), .ref (Ac 0), .ref (L 6 0)]))], dyW cyI Ad D, dyW cyI At T, shW cyI As S, ctW cyI Ac C', hiW cyI cyO L V, mdW cyI Am M', [(ao, .inl (cyJ, 1, .inr (.inl (f'))))]]) (As := []) (rest := []) ⟨hx, hb, hml, hown, hts⟩ (c_X6_thrown l G cyI cyO Am M') (cwV 0 hts gL_law_X6_thrown rfl rfl rfl (by decide +kernel) ⟨Nat.le_of_ble_eq_true rfl, Nat.le_of_ble_eq_true rfl⟩) hK2 hP hD hS hA [6] rfl rfl rfl 0 6 rfl rfl rfl hl.1 rfl (Nat.le_of_ble_eq_true rfl) dL_law_1273 hcs (fun H locs hP hD hS => ?_)
  have hP : va_P G vwCl (cat [[(h, .inr (5, [.ref (Ad 0), .ref (At 0), .ref (As 0), .ref (Ac 0), .ref (L 6 0)]))], dyW cyI Ad D, dyW cyI At T, shW cyI As S, ctW cyI Ac C', hiW cyI cyO L V, mdW cyI Am M', [(ao, .inl (cyJ, 1, .inr (.inl (f'))))]]) H := hP
  have hD : va_D A9 (cat [[(h, .inr (5, [.ref (Ad 0), .ref (At 0), .ref (As 0), .ref (Ac 0), .ref (L 6 0)]))], dyW cyI Ad D, dyW cyI At T, shW cyI As S, ctW cyI Ac C', hiW cyI cyO L V, mdW cyI Am M', [(ao, .inl (cyJ, 1, .inr (.inl (f'))))]]) := hD
  refine top_i (x' := k) hth ?_
  refine lv_iload hx hb dL_law_1276 (lv_at hl 1 rfl) ?_
  refine lv_icmp_eq (tgt := 1283) hx hb dL_law_1278 (by decide) (fun c_1278 => ?_) (fun c_1278 => ?_)
  · refine lv_iload hx hb dL_law_1283 (lv_at hl 1 rfl) ?_
    refine lv_if_ne (tgt := 1300) hx hb dL_law_1285 (by decide) (fun c_1285 => ?_) (fun c_1285 => ?_)
    · refine lv_goto (tgt := 1444) hx hb dL_law_1300 (by decide) ?_
      exact kk _ _ _ ⟨L, D, T, S, C', V, M', f', hP, hD, hS, lv_sub hl [2, 3, 4, 5, 6] rfl, hR'⟩
    · refine lv_aload_n hx hb dL_law_1288 rfl (lv_at hl 3 rfl) ?_
      refine lv_iconst (v := (0 : Int32)) hx hb dL_law_1289 (by decide) ?_
      refine va_lald (f := f') hx hb hK hP 115 2 rfl rfl in01 dL_law_1290 ?_
      refine top_l (x' := f' 0) rfl ?_
      refine top_l (x' := a'.toInt64) (hans c_1285) ?_
      refine lv_iload hx hb dL_law_1291 (lv_at hl 0 rfl) ?_
      refine lv_i2l (v := a'.toInt64) hx hb dL_law_1293 rfl ?_
      refine W.lcmp hx hb dL_law_1294 ?_
      refine lv_if_eq (tgt := 1300) hx hb dL_law_1295 (by decide) (fun c_1295 => ?_) (fun c_1295 => ?_)
      · refine lv_goto (tgt := 1444) hx hb dL_law_1300 (by decide) ?_
        exact kk _ _ _ ⟨L, D, T, S, C', V, M', f', hP, hD, hS, lv_sub hl [2, 3, 4, 5, 6] rfl, hR'⟩
      · exact absurd (lg_self _) c_1295
  · exact absurd rfl c_1278
set_option maxHeartbeats 4000000 in
set_option maxRecDepth 100000 in
theorem law_clearText {p9 : Program} {l : Launch} {e9 : Env} {s9 : State} {m9 : MethodId} {b9 : List Frame} {t9 : Method} {c9 : Code} {A9 : Nat → Prop} {G : va_G} {cyI cyO cyJ : ClassId} {b Ln : Nat} {xs : Nat → Int32} {Q : State → Prop} {h : Nat} {Ad At As Ac Am : Nat → Nat} {ao i cells slots : Nat} {H : Heap} {locs : List Loc} {ls : Array Slot} (hC : LC p9 l s9 m9 c9 A9 G cyI cyO cyJ b Ln xs) (hi : i + 2 < Ln) (hLn : Ln ≤ 1536) (hcs : cells + 1 ≤ 609290 ∧ slots + 6 ≤ 7268235) (hJ : LJ G cyI cyO cyJ s9 A9 b h Ad At As Ac Am ao i H locs ls)
    (kk : ∀ (H : Heap) (locs : List Loc) (ls : Array Slot), LJ G cyI cyO cyJ s9 A9 b h Ad At As Ac Am ao i H locs ls → W p9 l e9 room_1 s9 m9 #[Value.ref b] b9 t9 c9 H locs (cells + 1) (slots + 6) Q (F0 m9 1444 ls [])) :
    W p9 l e9 room_1 s9 m9 #[Value.ref b] b9 t9 c9 H locs cells slots Q (F0 m9 1303 ls []) := by
  obtain ⟨hx, hb, hml, hown, hts, hscr, hbl, hbA, hA, hK, hX, htr⟩ := hC
  obtain ⟨L, D, T, S, C, V, M, f, hP, hD, hS, hl, hR⟩ := hJ
  have hK2 := hK.sub [0, 1] (tys' := TY cyI cyO) rfl
  have hcs0 : cells ≤ 609290 ∧ slots ≤ 7268235 := ⟨by omega, by omega⟩
  have hP : va_P G vwCl (cat [[(h, .inr (5, [.ref (Ad 0), .ref (At 0), .ref (As 0), .ref (Ac 0), .ref (L 6 0)]))], dyW cyI Ad D, dyW cyI At T, shW cyI As S, ctW cyI Ac C, hiW cyI cyO L V, mdW cyI Am M, [(ao, .inl (cyJ, 1, .inr (.inl (f))))]]) H := hP
  have hD : va_D A9 (cat [[(h, .inr (5, [.ref (Ad 0), .ref (At 0), .ref (As 0), .ref (Ac 0), .ref (L 6 0)]))], dyW cyI Ad D, dyW cyI At T, shW cyI As S, ctW cyI Ac C, hiW cyI cyO L V, mdW cyI Am M, [(ao, .inl (cyJ, 1, .inr (.inl (f))))]]) := hD
  refine lv_aload_n hx hb dL_law_1303 rfl (lv_at hl 3 rfl) ?_
  obtain ⟨r, C', M', hM, hm, hR'⟩ := q_clearText l G cyI cyO h Ad At As Ac Am L D T S C V M hR
  refine gVi (gs := [[(h, .inr (5, [.ref (Ad 0), .ref (At 0), .ref (As 0), .ref (Ac 0), .ref (L 6 0)]))], dyW cyI Ad D, dyW cyI At T, shW cyI As S, ctW cyI Ac C, hiW cyI cyO L V, mdW cyI Am M, [(ao, .inl (cyJ, 1, .inr (.inl (f))))]]) (As := []) (rest := []) ⟨hx, hb, hml, hown, hts⟩ hM (cwV 0 hts gL_law_X5_clearText rfl rfl rfl (by decide +kernel) ⟨Nat.le_of_ble_eq_true rfl, Nat.le_of_ble_eq_true rfl⟩) hK2 hP hD hS hA [0, 4] rfl rfl rfl 0 5 rfl rfl rfl hl.1 rfl (Nat.le_of_ble_eq_true rfl) dL_law_1304 hcs0 (fun H locs hP hD hS => ?_)
  have hP : va_P G vwCl (cat [[(h, .inr (5, [.ref (Ad 0), .ref (At 0), .ref (As 0), .ref (Ac 0), .ref (L 6 0)]))], dyW cyI Ad D, dyW cyI At T, shW cyI As S, ctW cyI Ac C', hiW cyI cyO L V, mdW cyI Am M, [(ao, .inl (cyJ, 1, .inr (.inl (f))))]]) H := hP
  have hD : va_D A9 (cat [[(h, .inr (5, [.ref (Ad 0), .ref (At 0), .ref (As 0), .ref (Ac 0), .ref (L 6 0)]))], dyW cyI Ad D, dyW cyI At T, shW cyI As S, ctW cyI Ac C', hiW cyI cyO L V, mdW cyI Am M, [(ao, .inl (cyJ, 1, .inr (.inl (f))))]]) := hD
  refine lv_aload_n hx hb dL_law_1307 rfl (lv_at hl 2 rfl) ?_
  refine gVi (gs := [[(h, .inr (5, [.ref (Ad 0), .ref (At 0), .ref (As 0), .ref (Ac 0), .ref (L 6 0)]))], dyW cyI Ad D, dyW cyI At T, shW cyI As S, ctW cyI Ac C', hiW cyI cyO L V, mdW cyI Am M, [(ao, .inl (cyJ, 1, .inr (.inl (f))))]]) (As := []) (rest := [.int (r)]) ⟨hx, hb, hml, hown, hts⟩ hm (cwV 0 hts gL_law_X6_clearText rfl rfl rfl (by decide +kernel) ⟨Nat.le_of_ble_eq_true rfl, Nat.le_of_ble_eq_true rfl⟩) hK2 hP hD hS hA [6] rfl rfl rfl 0 6 rfl rfl rfl hl.1 rfl (Nat.le_of_ble_eq_true rfl) dL_law_1308 hcs0 (fun H locs hP hD hS => ?_)
  have hP : va_P G vwCl (cat [[(h, .inr (5, [.ref (Ad 0), .ref (At 0), .ref (As 0), .ref (Ac 0), .ref (L 6 0)]))], dyW cyI Ad D, dyW cyI At T, shW cyI As S, ctW cyI Ac C', hiW cyI cyO L V, mdW cyI Am M', [(ao, .inl (cyJ, 1, .inr (.inl (f))))]]) H := hP
  have hD : va_D A9 (cat [[(h, .inr (5, [.ref (Ad 0), .ref (At 0), .ref (As 0), .ref (Ac 0), .ref (L 6 0)]))], dyW cyI Ad D, dyW cyI At T, shW cyI As S, ctW cyI Ac C', hiW cyI cyO L V, mdW cyI Am M', [(ao, .inl (cyJ, 1, .inr (.inl (f))))]]) := hD
  refine lv_icmp_eq (tgt := 1444) hx hb dL_law_1311 (by decide) (fun c_1311 => ?_) (fun c_1311 => ?_)
  · refine W.widen (k := cells + 1) (n := slots + 6) (Nat.le_add_right _ _) (Nat.le_add_right _ _) ?_
    exact kk _ _ _ ⟨L, D, T, S, C', V, M', f, hP, hD, hS, lv_sub hl [0, 1, 2, 3, 4] rfl, hR'⟩
  · exact absurd rfl c_1311
set_option maxHeartbeats 4000000 in
set_option maxRecDepth 100000 in
theorem law_firstError {p9 : Program} {l : Launch} {e9 : Env} {s9 : State} {m9 : MethodId} {b9 : List Frame} {t9 : Method} {c9 : Code} {A9 : Nat → Prop} {G : va_G} {cyI cyO cyJ : ClassId} {b Ln : Nat} {xs : Nat → Int32} {Q : State → Prop} {h : Nat} {Ad At As Ac Am : Nat → Nat} {ao i cells slots : Nat} {H : Heap} {locs : List Loc} {ls : Array Slot} (hC : LC p9 l s9 m9 c9 A9 G cyI cyO cyJ b Ln xs) (hi : i + 2 < Ln) (hLn : Ln ≤ 1536) (hcs : cells + 1 ≤ 609290 ∧ slots + 6 ≤ 7268235) (hJ : LJ G cyI cyO cyJ s9 A9 b h Ad At As Ac Am ao i H locs ls)
    (kk : ∀ (H : Heap) (locs : List Loc) (ls : Array Slot), LJ G cyI cyO cyJ s9 A9 b h Ad At As Ac Am ao i H locs ls → W p9 l e9 room_1 s9 m9 #[Value.ref b] b9 t9 c9 H locs (cells + 1) (slots + 6) Q (F0 m9 1444 ls [])) :
    W p9 l e9 room_1 s9 m9 #[Value.ref b] b9 t9 c9 H locs cells slots Q (F0 m9 1316 ls []) := by
  obtain ⟨hx, hb, hml, hown, hts, hscr, hbl, hbA, hA, hK, hX, htr⟩ := hC
  obtain ⟨L, D, T, S, C, V, M, f, hP, hD, hS, hl, hR⟩ := hJ
  have hK2 := hK.sub [0, 1] (tys' := TY cyI cyO) rfl
  have hcs0 : cells ≤ 609290 ∧ slots ≤ 7268235 := ⟨by omega, by omega⟩
  have hP : va_P G vwCl (cat [[(h, .inr (5, [.ref (Ad 0), .ref (At 0), .ref (As 0), .ref (Ac 0), .ref (L 6 0)]))], dyW cyI Ad D, dyW cyI At T, shW cyI As S, ctW cyI Ac C, hiW cyI cyO L V, mdW cyI Am M, [(ao, .inl (cyJ, 1, .inr (.inl (f))))]]) H := hP
  have hD : va_D A9 (cat [[(h, .inr (5, [.ref (Ad 0), .ref (At 0), .ref (As 0), .ref (Ac 0), .ref (L 6 0)]))], dyW cyI Ad D, dyW cyI At T, shW cyI As S, ctW cyI Ac C, hiW cyI cyO L V, mdW cyI Am M, [(ao, .inl (cyJ, 1, .inr (.inl (f))))]]) := hD
  refine lv_aload_n hx hb dL_law_1316 rfl (lv_at hl 3 rfl) ?_
  obtain ⟨r, M', hM, hm, hR'⟩ := q_firstError l G cyI cyO h Ad At As Ac Am L D T S C V M hR
  refine gVi (gs := [[(h, .inr (5, [.ref (Ad 0), .ref (At 0), .ref (As 0), .ref (Ac 0), .ref (L 6 0)]))], dyW cyI Ad D, dyW cyI At T, shW cyI As S, ctW cyI Ac C, hiW cyI cyO L V, mdW cyI Am M, [(ao, .inl (cyJ, 1, .inr (.inl (f))))]]) (As := []) (rest := []) ⟨hx, hb, hml, hown, hts⟩ hM (cwV 0 hts gL_law_X5_firstError rfl rfl rfl (by decide +kernel) ⟨Nat.le_of_ble_eq_true rfl, Nat.le_of_ble_eq_true rfl⟩) hK2 hP hD hS hA [0, 4] rfl rfl rfl 0 5 rfl rfl rfl hl.1 rfl (Nat.le_of_ble_eq_true rfl) dL_law_1317 hcs0 (fun H locs hP hD hS => ?_)
  have hP : va_P G vwCl (cat [[(h, .inr (5, [.ref (Ad 0), .ref (At 0), .ref (As 0), .ref (Ac 0), .ref (L 6 0)]))], dyW cyI Ad D, dyW cyI At T, shW cyI As S, ctW cyI Ac C, hiW cyI cyO L V, mdW cyI Am M, [(ao, .inl (cyJ, 1, .inr (.inl (f))))]]) H := hP
  have hD : va_D A9 (cat [[(h, .inr (5, [.ref (Ad 0), .ref (At 0), .ref (As 0), .ref (Ac 0), .ref (L 6 0)]))], dyW cyI Ad D, dyW cyI At T, shW cyI As S, ctW cyI Ac C, hiW cyI cyO L V, mdW cyI Am M, [(ao, .inl (cyJ, 1, .inr (.inl (f))))]]) := hD
  refine lv_aload_n hx hb dL_law_1320 rfl (lv_at hl 2 rfl) ?_
  refine gVi (gs := [[(h, .inr (5, [.ref (Ad 0), .ref (At 0), .ref (As 0), .ref (Ac 0), .ref (L 6 0)]))], dyW cyI Ad D, dyW cyI At T, shW cyI As S, ctW cyI Ac C, hiW cyI cyO L V, mdW cyI Am M, [(ao, .inl (cyJ, 1, .inr (.inl (f))))]]) (As := []) (rest := [.int (r)]) ⟨hx, hb, hml, hown, hts⟩ hm (cwV 0 hts gL_law_X6_firstError rfl rfl rfl (by decide +kernel) ⟨Nat.le_of_ble_eq_true rfl, Nat.le_of_ble_eq_true rfl⟩) hK2 hP hD hS hA [6] rfl rfl rfl 0 6 rfl rfl rfl hl.1 rfl (Nat.le_of_ble_eq_true rfl) dL_law_1321 hcs0 (fun H locs hP hD hS => ?_)
  have hP : va_P G vwCl (cat [[(h, .inr (5, [.ref (Ad 0), .ref (At 0), .ref (As 0), .ref (Ac 0), .ref (L 6 0)]))], dyW cyI Ad D, dyW cyI At T, shW cyI As S, ctW cyI Ac C, hiW cyI cyO L V, mdW cyI Am M', [(ao, .inl (cyJ, 1, .inr (.inl (f))))]]) H := hP
  have hD : va_D A9 (cat [[(h, .inr (5, [.ref (Ad 0), .ref (At 0), .ref (As 0), .ref (Ac 0), .ref (L 6 0)]))], dyW cyI Ad D, dyW cyI At T, shW cyI As S, ctW cyI Ac C, hiW cyI cyO L V, mdW cyI Am M', [(ao, .inl (cyJ, 1, .inr (.inl (f))))]]) := hD
  refine lv_icmp_eq (tgt := 1444) hx hb dL_law_1324 (by decide) (fun c_1324 => ?_) (fun c_1324 => ?_)
  · refine W.widen (k := cells + 1) (n := slots + 6) (Nat.le_add_right _ _) (Nat.le_add_right _ _) ?_
    exact kk _ _ _ ⟨L, D, T, S, C, V, M', f, hP, hD, hS, lv_sub hl [0, 1, 2, 3, 4] rfl, hR'⟩
  · exact absurd rfl c_1324
set_option maxHeartbeats 4000000 in
set_option maxRecDepth 100000 in
theorem law_run {p9 : Program} {l : Launch} {e9 : Env} {s9 : State} {m9 : MethodId} {b9 : List Frame} {t9 : Method} {c9 : Code} {A9 : Nat → Prop} {G : va_G} {cyI cyO cyJ : ClassId} {b Ln : Nat} {xs : Nat → Int32} {Q : State → Prop} {h : Nat} {Ad At As Ac Am : Nat → Nat} {ao i cells slots : Nat} {H : Heap} {locs : List Loc} {ls : Array Slot} (hC : LC p9 l s9 m9 c9 A9 G cyI cyO cyJ b Ln xs) (hi : i + 2 < Ln) (hLn : Ln ≤ 1536) (hcs : cells + 1 ≤ 609290 ∧ slots + 6 ≤ 7268235) (hJ : LJ G cyI cyO cyJ s9 A9 b h Ad At As Ac Am ao i H locs ls)
    (kk : ∀ (H : Heap) (locs : List Loc) (ls : Array Slot), LJ G cyI cyO cyJ s9 A9 b h Ad At As Ac Am ao i H locs ls → W p9 l e9 room_1 s9 m9 #[Value.ref b] b9 t9 c9 H locs (cells + 1) (slots + 6) Q (F0 m9 1444 ls [])) :
    W p9 l e9 room_1 s9 m9 #[Value.ref b] b9 t9 c9 H locs cells slots Q (F0 m9 1329 ls []) := by
  obtain ⟨hx, hb, hml, hown, hts, hscr, hbl, hbA, hA, hK, hX, htr⟩ := hC
  obtain ⟨L, D, T, S, C, V, M, f, hP, hD, hS, hl, hR⟩ := hJ
  have hK2 := hK.sub [0, 1] (tys' := TY cyI cyO) rfl
  have hcs0 : cells ≤ 609290 ∧ slots ≤ 7268235 := ⟨by omega, by omega⟩
  have hP : va_P G vwCl (cat [[(h, .inr (5, [.ref (Ad 0), .ref (At 0), .ref (As 0), .ref (Ac 0), .ref (L 6 0)]))], dyW cyI Ad D, dyW cyI At T, shW cyI As S, ctW cyI Ac C, hiW cyI cyO L V, mdW cyI Am M, [(ao, .inl (cyJ, 1, .inr (.inl (f))))]]) H := hP
  have hD : va_D A9 (cat [[(h, .inr (5, [.ref (Ad 0), .ref (At 0), .ref (As 0), .ref (Ac 0), .ref (L 6 0)]))], dyW cyI Ad D, dyW cyI At T, shW cyI As S, ctW cyI Ac C, hiW cyI cyO L V, mdW cyI Am M, [(ao, .inl (cyJ, 1, .inr (.inl (f))))]]) := hD
  refine lv_aload_n hx hb dL_law_1329 rfl (lv_at hl 3 rfl) ?_
  refine lv_aload_n hx hb dL_law_1330 rfl (lv_at hl 1 rfl) ?_
  obtain ⟨k, L', S', D', C', V', f', M', a', hM, hm, ⟨hth, hans⟩, hR'⟩ := s_run l G cyI cyO cyJ h Ad At As Ac Am ao L D T S C V M f  htr hR
  refine gHi (gs := [[(h, .inr (5, [.ref (Ad 0), .ref (At 0), .ref (As 0), .ref (Ac 0), .ref (L 6 0)]))], dyW cyI Ad D, dyW cyI At T, shW cyI As S, ctW cyI Ac C, hiW cyI cyO L V, mdW cyI Am M, [(ao, .inl (cyJ, 1, .inr (.inl (f))))]]) (As := [.ref (h), .ref (ao)]) (rest := []) ⟨hx, hb, hml, hown, hts⟩ hM (vx_cwSW 2 hts gL_law_L_run rfl rfl rfl (by decide +kernel) ⟨Nat.le_of_ble_eq_true rfl, Nat.le_of_ble_eq_true rfl⟩) hK hX hP hD hS hA [0, 3, 1, 4, 5, 7] rfl rfl rfl rfl hl.1 rfl (Nat.le_of_ble_eq_true rfl) dL_law_1331 hcs (fun H locs hP hD hS => ?_)
  have hP : va_P G vwCl (cat [[(h, .inr (5, [.ref (Ad 0), .ref (At 0), .ref (As 0), .ref (Ac 0), .ref (L' 6 0)]))], dyW cyI Ad D', dyW cyI At T, shW cyI As S', ctW cyI Ac C', hiW cyI cyO L' V', mdW cyI Am M, [(ao, .inl (cyJ, 1, .inr (.inl (f'))))]]) H := hP
  have hD : va_D A9 (cat [[(h, .inr (5, [.ref (Ad 0), .ref (At 0), .ref (As 0), .ref (Ac 0), .ref (L' 6 0)]))], dyW cyI Ad D', dyW cyI At T, shW cyI As S', ctW cyI Ac C', hiW cyI cyO L' V', mdW cyI Am M, [(ao, .inl (cyJ, 1, .inr (.inl (f'))))]]) := hD
  refine lv_istore (lv' := [(5, .int (k)), (4, .int (nI (i))), (3, .ref (ao)), (2, .ref (Am 0)), (1, .ref (h)), (0, .ref (b))]) hx hb dL_law_1334 hl (by decide) rfl (fun ls hl => ?_)
  refine lv_aload_n hx hb dL_law_1336 rfl (lv_at hl 3 rfl) ?_
  refine gVi (gs := [[(h, .inr (5, [.ref (Ad 0), .ref (At 0), .ref (As 0), .ref (Ac 0), .ref (L' 6 0)]))], dyW cyI Ad D', dyW cyI At T, shW cyI As S', ctW cyI Ac C', hiW cyI cyO L' V', mdW cyI Am M, [(ao, .inl (cyJ, 1, .inr (.inl (f'))))]]) (As := []) (rest := []) ⟨hx, hb, hml, hown, hts⟩ hm (cwV 0 hts gL_law_X6_run rfl rfl rfl (by decide +kernel) ⟨Nat.le_of_ble_eq_true rfl, Nat.le_of_ble_eq_true rfl⟩) hK2 hP hD hS hA [6] rfl rfl rfl 0 6 rfl rfl rfl hl.1 rfl (Nat.le_of_ble_eq_true rfl) dL_law_1337 hcs (fun H locs hP hD hS => ?_)
  have hP : va_P G vwCl (cat [[(h, .inr (5, [.ref (Ad 0), .ref (At 0), .ref (As 0), .ref (Ac 0), .ref (L' 6 0)]))], dyW cyI Ad D', dyW cyI At T, shW cyI As S', ctW cyI Ac C', hiW cyI cyO L' V', mdW cyI Am M', [(ao, .inl (cyJ, 1, .inr (.inl (f'))))]]) H := hP
  have hD : va_D A9 (cat [[(h, .inr (5, [.ref (Ad 0), .ref (At 0), .ref (As 0), .ref (Ac 0), .ref (L' 6 0)]))], dyW cyI Ad D', dyW cyI At T, shW cyI As S', ctW cyI Ac C', hiW cyI cyO L' V', mdW cyI Am M', [(ao, .inl (cyJ, 1, .inr (.inl (f'))))]]) := hD
  refine lv_istore (lv' := [(6, .int (a')), (5, .int (k)), (4, .int (nI (i))), (3, .ref (ao)), (2, .ref (Am 0)), (1, .ref (h)), (0, .ref (b))]) hx hb dL_law_1340 hl (by decide) rfl (fun ls hl => ?_)
  refine lv_aload_n hx hb dL_law_1342 rfl (lv_at hl 4 rfl) ?_
  refine gVi (gs := [[(h, .inr (5, [.ref (Ad 0), .ref (At 0), .ref (As 0), .ref (Ac 0), .ref (L' 6 0)]))], dyW cyI Ad D', dyW cyI At T, shW cyI As S', ctW cyI Ac C', hiW cyI cyO L' V', mdW cyI Am M', [(ao, .inl (cyJ, 1, .inr (.inl (f'))))]]) (As := []) (rest := []) ⟨hx, hb, hml, hown, hts⟩ (c_X6_thrown l G cyI cyO Am M') (cwV 0 hts gL_law_X6_thrown rfl rfl rfl (by decide +kernel) ⟨Nat.le_of_ble_eq_true rfl, Nat.le_of_ble_eq_true rfl⟩) hK2 hP hD hS hA [6] rfl rfl rfl 0 6 rfl rfl rfl hl.1 rfl (Nat.le_of_ble_eq_true rfl) dL_law_1343 hcs (fun H locs hP hD hS => ?_)
  have hP : va_P G vwCl (cat [[(h, .inr (5, [.ref (Ad 0), .ref (At 0), .ref (As 0), .ref (Ac 0), .ref (L' 6 0)]))], dyW cyI Ad D', dyW cyI At T, shW cyI As S', ctW cyI Ac C', hiW cyI cyO L' V', mdW cyI Am M', [(ao, .inl (cyJ, 1, .inr (.inl (f'))))]]) H := hP
  have hD : va_D A9 (cat [[(h, .inr (5, [.ref (Ad 0), .ref (At 0), .ref (As 0), .ref (Ac 0), .ref (L' 6 0)]))], dyW cyI Ad D', dyW cyI At T, shW cyI As S', ctW cyI Ac C', hiW cyI cyO L' V', mdW cyI Am M', [(ao, .inl (cyJ, 1, .inr (.inl (f'))))]]) := hD
  refine top_i (x' := k) hth ?_
  refine lv_iload hx hb dL_law_1346 (lv_at hl 1 rfl) ?_
  refine lv_icmp_eq (tgt := 1353) hx hb dL_law_1348 (by decide) (fun c_1348 => ?_) (fun c_1348 => ?_)
  · refine lv_iload hx hb dL_law_1353 (lv_at hl 1 rfl) ?_
    refine lv_if_ne (tgt := 1370) hx hb dL_law_1355 (by decide) (fun c_1355 => ?_) (fun c_1355 => ?_)
    · refine lv_goto (tgt := 1444) hx hb dL_law_1370 (by decide) ?_
      exact kk _ _ _ ⟨L', D', T, S', C', V', M', f', hP, hD, hS, lv_sub hl [2, 3, 4, 5, 6] rfl, hR'⟩
    · refine lv_aload_n hx hb dL_law_1358 rfl (lv_at hl 3 rfl) ?_
      refine lv_iconst (v := (0 : Int32)) hx hb dL_law_1359 (by decide) ?_
      refine va_lald (f := f') hx hb hK hP 115 2 rfl rfl in01 dL_law_1360 ?_
      refine top_l (x' := f' 0) rfl ?_
      refine top_l (x' := a'.toInt64) (hans c_1355) ?_
      refine lv_iload hx hb dL_law_1361 (lv_at hl 0 rfl) ?_
      refine lv_i2l (v := a'.toInt64) hx hb dL_law_1363 rfl ?_
      refine W.lcmp hx hb dL_law_1364 ?_
      refine lv_if_eq (tgt := 1370) hx hb dL_law_1365 (by decide) (fun c_1365 => ?_) (fun c_1365 => ?_)
      · refine lv_goto (tgt := 1444) hx hb dL_law_1370 (by decide) ?_
        exact kk _ _ _ ⟨L', D', T, S', C', V', M', f', hP, hD, hS, lv_sub hl [2, 3, 4, 5, 6] rfl, hR'⟩
      · exact absurd (lg_self _) c_1365
  · exact absurd rfl c_1348
set_option maxHeartbeats 4000000 in
set_option maxRecDepth 100000 in
theorem law_undo {p9 : Program} {l : Launch} {e9 : Env} {s9 : State} {m9 : MethodId} {b9 : List Frame} {t9 : Method} {c9 : Code} {A9 : Nat → Prop} {G : va_G} {cyI cyO cyJ : ClassId} {b Ln : Nat} {xs : Nat → Int32} {Q : State → Prop} {h : Nat} {Ad At As Ac Am : Nat → Nat} {ao i cells slots : Nat} {H : Heap} {locs : List Loc} {ls : Array Slot} (hC : LC p9 l s9 m9 c9 A9 G cyI cyO cyJ b Ln xs) (hi : i + 2 < Ln) (hLn : Ln ≤ 1536) (hcs : cells + 1 ≤ 609290 ∧ slots + 6 ≤ 7268235) (hJ : LJ G cyI cyO cyJ s9 A9 b h Ad At As Ac Am ao i H locs ls)
    (kk : ∀ (H : Heap) (locs : List Loc) (ls : Array Slot), LJ G cyI cyO cyJ s9 A9 b h Ad At As Ac Am ao i H locs ls → W p9 l e9 room_1 s9 m9 #[Value.ref b] b9 t9 c9 H locs (cells + 1) (slots + 6) Q (F0 m9 1444 ls [])) :
    W p9 l e9 room_1 s9 m9 #[Value.ref b] b9 t9 c9 H locs cells slots Q (F0 m9 1373 ls []) := by
  obtain ⟨hx, hb, hml, hown, hts, hscr, hbl, hbA, hA, hK, hX, htr⟩ := hC
  obtain ⟨L, D, T, S, C, V, M, f, hP, hD, hS, hl, hR⟩ := hJ
  have hK2 := hK.sub [0, 1] (tys' := TY cyI cyO) rfl
  have hcs0 : cells ≤ 609290 ∧ slots ≤ 7268235 := ⟨by omega, by omega⟩
  have hP : va_P G vwCl (cat [[(h, .inr (5, [.ref (Ad 0), .ref (At 0), .ref (As 0), .ref (Ac 0), .ref (L 6 0)]))], dyW cyI Ad D, dyW cyI At T, shW cyI As S, ctW cyI Ac C, hiW cyI cyO L V, mdW cyI Am M, [(ao, .inl (cyJ, 1, .inr (.inl (f))))]]) H := hP
  have hD : va_D A9 (cat [[(h, .inr (5, [.ref (Ad 0), .ref (At 0), .ref (As 0), .ref (Ac 0), .ref (L 6 0)]))], dyW cyI Ad D, dyW cyI At T, shW cyI As S, ctW cyI Ac C, hiW cyI cyO L V, mdW cyI Am M, [(ao, .inl (cyJ, 1, .inr (.inl (f))))]]) := hD
  refine lv_aload_n hx hb dL_law_1373 rfl (lv_at hl 3 rfl) ?_
  refine lv_aload_n hx hb dL_law_1374 rfl (lv_at hl 1 rfl) ?_
  obtain ⟨k, L', D', V', f', M', a', hM, hm, ⟨hth, hans⟩, hR'⟩ := s_undo l G cyI cyO cyJ h Ad At As Ac Am ao L D T S C V M f  htr hR
  refine gHi (gs := [[(h, .inr (5, [.ref (Ad 0), .ref (At 0), .ref (As 0), .ref (Ac 0), .ref (L 6 0)]))], dyW cyI Ad D, dyW cyI At T, shW cyI As S, ctW cyI Ac C, hiW cyI cyO L V, mdW cyI Am M, [(ao, .inl (cyJ, 1, .inr (.inl (f))))]]) (As := [.ref (h), .ref (ao)]) (rest := []) ⟨hx, hb, hml, hown, hts⟩ hM (vx_cwSW 2 hts gL_law_L_undo rfl rfl rfl (by decide +kernel) ⟨Nat.le_of_ble_eq_true rfl, Nat.le_of_ble_eq_true rfl⟩) hK hX hP hD hS hA [0, 1, 5, 7] rfl rfl rfl rfl hl.1 rfl (Nat.le_of_ble_eq_true rfl) dL_law_1375 hcs (fun H locs hP hD hS => ?_)
  have hP : va_P G vwCl (cat [[(h, .inr (5, [.ref (Ad 0), .ref (At 0), .ref (As 0), .ref (Ac 0), .ref (L' 6 0)]))], dyW cyI Ad D', dyW cyI At T, shW cyI As S, ctW cyI Ac C, hiW cyI cyO L' V', mdW cyI Am M, [(ao, .inl (cyJ, 1, .inr (.inl (f'))))]]) H := hP
  have hD : va_D A9 (cat [[(h, .inr (5, [.ref (Ad 0), .ref (At 0), .ref (As 0), .ref (Ac 0), .ref (L' 6 0)]))], dyW cyI Ad D', dyW cyI At T, shW cyI As S, ctW cyI Ac C, hiW cyI cyO L' V', mdW cyI Am M, [(ao, .inl (cyJ, 1, .inr (.inl (f'))))]]) := hD
  refine lv_istore (lv' := [(5, .int (k)), (4, .int (nI (i))), (3, .ref (ao)), (2, .ref (Am 0)), (1, .ref (h)), (0, .ref (b))]) hx hb dL_law_1378 hl (by decide) rfl (fun ls hl => ?_)
  refine lv_aload_n hx hb dL_law_1380 rfl (lv_at hl 3 rfl) ?_
  refine gVi (gs := [[(h, .inr (5, [.ref (Ad 0), .ref (At 0), .ref (As 0), .ref (Ac 0), .ref (L' 6 0)]))], dyW cyI Ad D', dyW cyI At T, shW cyI As S, ctW cyI Ac C, hiW cyI cyO L' V', mdW cyI Am M, [(ao, .inl (cyJ, 1, .inr (.inl (f'))))]]) (As := []) (rest := []) ⟨hx, hb, hml, hown, hts⟩ hm (cwV 0 hts gL_law_X6_undo rfl rfl rfl (by decide +kernel) ⟨Nat.le_of_ble_eq_true rfl, Nat.le_of_ble_eq_true rfl⟩) hK2 hP hD hS hA [6] rfl rfl rfl 0 6 rfl rfl rfl hl.1 rfl (Nat.le_of_ble_eq_true rfl) dL_law_1381 hcs (fun H locs hP hD hS => ?_)
  have hP : va_P G vwCl (cat [[(h, .inr (5, [.ref (Ad 0), .ref (At 0), .ref (As 0), .ref (Ac 0), .ref (L' 6 0)]))], dyW cyI Ad D', dyW cyI At T, shW cyI As S, ctW cyI Ac C, hiW cyI cyO L' V', mdW cyI Am M', [(ao, .inl (cyJ, 1, .inr (.inl (f'))))]]) H := hP
  have hD : va_D A9 (cat [[(h, .inr (5, [.ref (Ad 0), .ref (At 0), .ref (As 0), .ref (Ac 0), .ref (L' 6 0)]))], dyW cyI Ad D', dyW cyI At T, shW cyI As S, ctW cyI Ac C, hiW cyI cyO L' V', mdW cyI Am M', [(ao, .inl (cyJ, 1, .inr (.inl (f'))))]]) := hD
  refine lv_istore (lv' := [(6, .int (a')), (5, .int (k)), (4, .int (nI (i))), (3, .ref (ao)), (2, .ref (Am 0)), (1, .ref (h)), (0, .ref (b))]) hx hb dL_law_1384 hl (by decide) rfl (fun ls hl => ?_)
  refine lv_aload_n hx hb dL_law_1386 rfl (lv_at hl 4 rfl) ?_
  refine gVi (gs := [[(h, .inr (5, [.ref (Ad 0), .ref (At 0), .ref (As 0), .ref (Ac 0), .ref (L' 6 0)]))], dyW cyI Ad D', dyW cyI At T, shW cyI As S, ctW cyI Ac C, hiW cyI cyO L' V', mdW cyI Am M', [(ao, .inl (cyJ, 1, .inr (.inl (f'))))]]) (As := []) (rest := []) ⟨hx, hb, hml, hown, hts⟩ (c_X6_thrown l G cyI cyO Am M') (cwV 0 hts gL_law_X6_thrown rfl rfl rfl (by decide +kernel) ⟨Nat.le_of_ble_eq_true rfl, Nat.le_of_ble_eq_true rfl⟩) hK2 hP hD hS hA [6] rfl rfl rfl 0 6 rfl rfl rfl hl.1 rfl (Nat.le_of_ble_eq_true rfl) dL_law_1387 hcs (fun H locs hP hD hS => ?_)
  have hP : va_P G vwCl (cat [[(h, .inr (5, [.ref (Ad 0), .ref (At 0), .ref (As 0), .ref (Ac 0), .ref (L' 6 0)]))], dyW cyI Ad D', dyW cyI At T, shW cyI As S, ctW cyI Ac C, hiW cyI cyO L' V', mdW cyI Am M', [(ao, .inl (cyJ, 1, .inr (.inl (f'))))]]) H := hP
  have hD : va_D A9 (cat [[(h, .inr (5, [.ref (Ad 0), .ref (At 0), .ref (As 0), .ref (Ac 0), .ref (L' 6 0)]))], dyW cyI Ad D', dyW cyI At T, shW cyI As S, ctW cyI Ac C, hiW cyI cyO L' V', mdW cyI Am M', [(ao, .inl (cyJ, 1, .inr (.inl (f'))))]]) := hD
  refine top_i (x' := k) hth ?_
  refine lv_iload hx hb dL_law_1390 (lv_at hl 1 rfl) ?_
  refine lv_icmp_eq (tgt := 1397) hx hb dL_law_1392 (by decide) (fun c_1392 => ?_) (fun c_1392 => ?_)
  · refine lv_iload hx hb dL_law_1397 (lv_at hl 1 rfl) ?_
    refine lv_if_ne (tgt := 1414) hx hb dL_law_1399 (by decide) (fun c_1399 => ?_) (fun c_1399 => ?_)
    · refine lv_goto (tgt := 1444) hx hb dL_law_1414 (by decide) ?_
      exact kk _ _ _ ⟨L', D', T, S, C, V', M', f', hP, hD, hS, lv_sub hl [2, 3, 4, 5, 6] rfl, hR'⟩
    · refine lv_aload_n hx hb dL_law_1402 rfl (lv_at hl 3 rfl) ?_
      refine lv_iconst (v := (0 : Int32)) hx hb dL_law_1403 (by decide) ?_
      refine va_lald (f := f') hx hb hK hP 115 2 rfl rfl in01 dL_law_1404 ?_
      refine top_l (x' := f' 0) rfl ?_
      refine top_l (x' := a'.toInt64) (hans c_1399) ?_
      refine lv_iload hx hb dL_law_1405 (lv_at hl 0 rfl) ?_
      refine lv_i2l (v := a'.toInt64) hx hb dL_law_1407 rfl ?_
      refine W.lcmp hx hb dL_law_1408 ?_
      refine lv_if_eq (tgt := 1414) hx hb dL_law_1409 (by decide) (fun c_1409 => ?_) (fun c_1409 => ?_)
      · refine lv_goto (tgt := 1444) hx hb dL_law_1414 (by decide) ?_
        exact kk _ _ _ ⟨L', D', T, S, C, V', M', f', hP, hD, hS, lv_sub hl [2, 3, 4, 5, 6] rfl, hR'⟩
      · exact absurd (lg_self _) c_1409
  · exact absurd rfl c_1392
set_option maxHeartbeats 4000000 in
set_option maxRecDepth 100000 in
theorem law_savedStates {p9 : Program} {l : Launch} {e9 : Env} {s9 : State} {m9 : MethodId} {b9 : List Frame} {t9 : Method} {c9 : Code} {A9 : Nat → Prop} {G : va_G} {cyI cyO cyJ : ClassId} {b Ln : Nat} {xs : Nat → Int32} {Q : State → Prop} {h : Nat} {Ad At As Ac Am : Nat → Nat} {ao i cells slots : Nat} {H : Heap} {locs : List Loc} {ls : Array Slot} (hC : LC p9 l s9 m9 c9 A9 G cyI cyO cyJ b Ln xs) (hi : i + 2 < Ln) (hLn : Ln ≤ 1536) (hcs : cells + 1 ≤ 609290 ∧ slots + 6 ≤ 7268235) (hJ : LJ G cyI cyO cyJ s9 A9 b h Ad At As Ac Am ao i H locs ls)
    (kk : ∀ (H : Heap) (locs : List Loc) (ls : Array Slot), LJ G cyI cyO cyJ s9 A9 b h Ad At As Ac Am ao i H locs ls → W p9 l e9 room_1 s9 m9 #[Value.ref b] b9 t9 c9 H locs (cells + 1) (slots + 6) Q (F0 m9 1444 ls [])) :
    W p9 l e9 room_1 s9 m9 #[Value.ref b] b9 t9 c9 H locs cells slots Q (F0 m9 1417 ls []) := by
  obtain ⟨hx, hb, hml, hown, hts, hscr, hbl, hbA, hA, hK, hX, htr⟩ := hC
  obtain ⟨L, D, T, S, C, V, M, f, hP, hD, hS, hl, hR⟩ := hJ
  have hK2 := hK.sub [0, 1] (tys' := TY cyI cyO) rfl
  have hcs0 : cells ≤ 609290 ∧ slots ≤ 7268235 := ⟨by omega, by omega⟩
  have hP : va_P G vwCl (cat [[(h, .inr (5, [.ref (Ad 0), .ref (At 0), .ref (As 0), .ref (Ac 0), .ref (L 6 0)]))], dyW cyI Ad D, dyW cyI At T, shW cyI As S, ctW cyI Ac C, hiW cyI cyO L V, mdW cyI Am M, [(ao, .inl (cyJ, 1, .inr (.inl (f))))]]) H := hP
  have hD : va_D A9 (cat [[(h, .inr (5, [.ref (Ad 0), .ref (At 0), .ref (As 0), .ref (Ac 0), .ref (L 6 0)]))], dyW cyI Ad D, dyW cyI At T, shW cyI As S, ctW cyI Ac C, hiW cyI cyO L V, mdW cyI Am M, [(ao, .inl (cyJ, 1, .inr (.inl (f))))]]) := hD
  refine lv_aload_n hx hb dL_law_1417 rfl (lv_at hl 3 rfl) ?_
  obtain ⟨r, M', hM, hm, hR'⟩ := q_savedStates l G cyI cyO h Ad At As Ac Am L D T S C V M hR
  refine gVi (gs := [[(h, .inr (5, [.ref (Ad 0), .ref (At 0), .ref (As 0), .ref (Ac 0), .ref (L 6 0)]))], dyW cyI Ad D, dyW cyI At T, shW cyI As S, ctW cyI Ac C, hiW cyI cyO L V, mdW cyI Am M, [(ao, .inl (cyJ, 1, .inr (.inl (f))))]]) (As := []) (rest := []) ⟨hx, hb, hml, hown, hts⟩ hM (cwV 0 hts gL_law_X5_savedStates rfl rfl rfl (by decide +kernel) ⟨Nat.le_of_ble_eq_true rfl, Nat.le_of_ble_eq_true rfl⟩) hK2 hP hD hS hA [0, 5] rfl rfl rfl 0 5 rfl rfl rfl hl.1 rfl (Nat.le_of_ble_eq_true rfl) dL_law_1418 hcs0 (fun H locs hP hD hS => ?_)
  have hP : va_P G vwCl (cat [[(h, .inr (5, [.ref (Ad 0), .ref (At 0), .ref (As 0), .ref (Ac 0), .ref (L 6 0)]))], dyW cyI Ad D, dyW cyI At T, shW cyI As S, ctW cyI Ac C, hiW cyI cyO L V, mdW cyI Am M, [(ao, .inl (cyJ, 1, .inr (.inl (f))))]]) H := hP
  have hD : va_D A9 (cat [[(h, .inr (5, [.ref (Ad 0), .ref (At 0), .ref (As 0), .ref (Ac 0), .ref (L 6 0)]))], dyW cyI Ad D, dyW cyI At T, shW cyI As S, ctW cyI Ac C, hiW cyI cyO L V, mdW cyI Am M, [(ao, .inl (cyJ, 1, .inr (.inl (f))))]]) := hD
  refine lv_aload_n hx hb dL_law_1421 rfl (lv_at hl 2 rfl) ?_
  refine gVi (gs := [[(h, .inr (5, [.ref (Ad 0), .ref (At 0), .ref (As 0), .ref (Ac 0), .ref (L 6 0)]))], dyW cyI Ad D, dyW cyI At T, shW cyI As S, ctW cyI Ac C, hiW cyI cyO L V, mdW cyI Am M, [(ao, .inl (cyJ, 1, .inr (.inl (f))))]]) (As := []) (rest := [.int (r)]) ⟨hx, hb, hml, hown, hts⟩ hm (cwV 0 hts gL_law_X6_savedStates rfl rfl rfl (by decide +kernel) ⟨Nat.le_of_ble_eq_true rfl, Nat.le_of_ble_eq_true rfl⟩) hK2 hP hD hS hA [6] rfl rfl rfl 0 6 rfl rfl rfl hl.1 rfl (Nat.le_of_ble_eq_true rfl) dL_law_1422 hcs0 (fun H locs hP hD hS => ?_)
  have hP : va_P G vwCl (cat [[(h, .inr (5, [.ref (Ad 0), .ref (At 0), .ref (As 0), .ref (Ac 0), .ref (L 6 0)]))], dyW cyI Ad D, dyW cyI At T, shW cyI As S, ctW cyI Ac C, hiW cyI cyO L V, mdW cyI Am M', [(ao, .inl (cyJ, 1, .inr (.inl (f))))]]) H := hP
  have hD : va_D A9 (cat [[(h, .inr (5, [.ref (Ad 0), .ref (At 0), .ref (As 0), .ref (Ac 0), .ref (L 6 0)]))], dyW cyI Ad D, dyW cyI At T, shW cyI As S, ctW cyI Ac C, hiW cyI cyO L V, mdW cyI Am M', [(ao, .inl (cyJ, 1, .inr (.inl (f))))]]) := hD
  refine lv_icmp_eq (tgt := 1444) hx hb dL_law_1425 (by decide) (fun c_1425 => ?_) (fun c_1425 => ?_)
  · refine W.widen (k := cells + 1) (n := slots + 6) (Nat.le_add_right _ _) (Nat.le_add_right _ _) ?_
    exact kk _ _ _ ⟨L, D, T, S, C, V, M', f, hP, hD, hS, lv_sub hl [0, 1, 2, 3, 4] rfl, hR'⟩
  · exact absurd rfl c_1425
set_option maxHeartbeats 4000000 in
set_option maxRecDepth 100000 in
theorem law_digest {p9 : Program} {l : Launch} {e9 : Env} {s9 : State} {m9 : MethodId} {b9 : List Frame} {t9 : Method} {c9 : Code} {A9 : Nat → Prop} {G : va_G} {cyI cyO cyJ : ClassId} {b Ln : Nat} {xs : Nat → Int32} {Q : State → Prop} {h : Nat} {Ad At As Ac Am : Nat → Nat} {ao i cells slots : Nat} {H : Heap} {locs : List Loc} {ls : Array Slot} (hC : LC p9 l s9 m9 c9 A9 G cyI cyO cyJ b Ln xs) (hi : i + 2 < Ln) (hLn : Ln ≤ 1536) (hcs : cells + 1 ≤ 609290 ∧ slots + 6 ≤ 7268235) (hJ : LJ G cyI cyO cyJ s9 A9 b h Ad At As Ac Am ao i H locs ls)
    (kk : ∀ (H : Heap) (locs : List Loc) (ls : Array Slot), LJ G cyI cyO cyJ s9 A9 b h Ad At As Ac Am ao i H locs ls → W p9 l e9 room_1 s9 m9 #[Value.ref b] b9 t9 c9 H locs (cells + 1) (slots + 6) Q (F0 m9 1444 ls [])) :
    W p9 l e9 room_1 s9 m9 #[Value.ref b] b9 t9 c9 H locs cells slots Q (F0 m9 1430 ls []) := by
  obtain ⟨hx, hb, hml, hown, hts, hscr, hbl, hbA, hA, hK, hX, htr⟩ := hC
  obtain ⟨L, D, T, S, C, V, M, f, hP, hD, hS, hl, hR⟩ := hJ
  have hK2 := hK.sub [0, 1] (tys' := TY cyI cyO) rfl
  have hcs0 : cells ≤ 609290 ∧ slots ≤ 7268235 := ⟨by omega, by omega⟩
  have hP : va_P G vwCl (cat [[(h, .inr (5, [.ref (Ad 0), .ref (At 0), .ref (As 0), .ref (Ac 0), .ref (L 6 0)]))], dyW cyI Ad D, dyW cyI At T, shW cyI As S, ctW cyI Ac C, hiW cyI cyO L V, mdW cyI Am M, [(ao, .inl (cyJ, 1, .inr (.inl (f))))]]) H := hP
  have hD : va_D A9 (cat [[(h, .inr (5, [.ref (Ad 0), .ref (At 0), .ref (As 0), .ref (Ac 0), .ref (L 6 0)]))], dyW cyI Ad D, dyW cyI At T, shW cyI As S, ctW cyI Ac C, hiW cyI cyO L V, mdW cyI Am M, [(ao, .inl (cyJ, 1, .inr (.inl (f))))]]) := hD
  refine lv_aload_n hx hb dL_law_1430 rfl (lv_at hl 3 rfl) ?_
  obtain ⟨r, S', T', M', hM, hm, hR'⟩ := q_digest l G cyI cyO h Ad At As Ac Am L D T S C V M hR
  refine gVl (gs := [[(h, .inr (5, [.ref (Ad 0), .ref (At 0), .ref (As 0), .ref (Ac 0), .ref (L 6 0)]))], dyW cyI Ad D, dyW cyI At T, shW cyI As S, ctW cyI Ac C, hiW cyI cyO L V, mdW cyI Am M, [(ao, .inl (cyJ, 1, .inr (.inl (f))))]]) (As := []) (rest := []) ⟨hx, hb, hml, hown, hts⟩ hM (cwV 0 hts gL_law_X5_digest rfl rfl rfl (by decide +kernel) ⟨Nat.le_of_ble_eq_true rfl, Nat.le_of_ble_eq_true rfl⟩) hK2 hP hD hS hA [0, 3, 2, 1] rfl rfl rfl 0 5 rfl rfl rfl hl.1 rfl (Nat.le_of_ble_eq_true rfl) dL_law_1431 hcs0 (fun H locs hP hD hS => ?_)
  have hP : va_P G vwCl (cat [[(h, .inr (5, [.ref (Ad 0), .ref (At 0), .ref (As 0), .ref (Ac 0), .ref (L 6 0)]))], dyW cyI Ad D, dyW cyI At T', shW cyI As S', ctW cyI Ac C, hiW cyI cyO L V, mdW cyI Am M, [(ao, .inl (cyJ, 1, .inr (.inl (f))))]]) H := hP
  have hD : va_D A9 (cat [[(h, .inr (5, [.ref (Ad 0), .ref (At 0), .ref (As 0), .ref (Ac 0), .ref (L 6 0)]))], dyW cyI Ad D, dyW cyI At T', shW cyI As S', ctW cyI Ac C, hiW cyI cyO L V, mdW cyI Am M, [(ao, .inl (cyJ, 1, .inr (.inl (f))))]]) := hD
  refine lv_aload_n hx hb dL_law_1434 rfl (lv_at hl 2 rfl) ?_
  refine gVl (gs := [[(h, .inr (5, [.ref (Ad 0), .ref (At 0), .ref (As 0), .ref (Ac 0), .ref (L 6 0)]))], dyW cyI Ad D, dyW cyI At T', shW cyI As S', ctW cyI Ac C, hiW cyI cyO L V, mdW cyI Am M, [(ao, .inl (cyJ, 1, .inr (.inl (f))))]]) (As := []) (rest := [.long (r)]) ⟨hx, hb, hml, hown, hts⟩ hm (cwV 0 hts gL_law_X6_digest rfl rfl rfl (by decide +kernel) ⟨Nat.le_of_ble_eq_true rfl, Nat.le_of_ble_eq_true rfl⟩) hK2 hP hD hS hA [6] rfl rfl rfl 0 6 rfl rfl rfl hl.1 rfl (Nat.le_of_ble_eq_true rfl) dL_law_1435 hcs0 (fun H locs hP hD hS => ?_)
  have hP : va_P G vwCl (cat [[(h, .inr (5, [.ref (Ad 0), .ref (At 0), .ref (As 0), .ref (Ac 0), .ref (L 6 0)]))], dyW cyI Ad D, dyW cyI At T', shW cyI As S', ctW cyI Ac C, hiW cyI cyO L V, mdW cyI Am M', [(ao, .inl (cyJ, 1, .inr (.inl (f))))]]) H := hP
  have hD : va_D A9 (cat [[(h, .inr (5, [.ref (Ad 0), .ref (At 0), .ref (As 0), .ref (Ac 0), .ref (L 6 0)]))], dyW cyI Ad D, dyW cyI At T', shW cyI As S', ctW cyI Ac C, hiW cyI cyO L V, mdW cyI Am M', [(ao, .inl (cyJ, 1, .inr (.inl (f))))]]) := hD
  refine W.lcmp hx hb dL_law_1438 ?_
  refine lv_if_eq (tgt := 1444) hx hb dL_law_1439 (by decide) (fun c_1439 => ?_) (fun c_1439 => ?_)
  · refine W.widen (k := cells + 1) (n := slots + 6) (Nat.le_add_right _ _) (Nat.le_add_right _ _) ?_
    exact kk _ _ _ ⟨L, D, T', S', C, V, M', f, hP, hD, hS, lv_sub hl [0, 1, 2, 3, 4] rfl, hR'⟩
  · exact absurd (lg_self _) c_1439

/-! ===== the law: its cases (0) ===== -/
set_option maxHeartbeats 4000000 in
set_option maxRecDepth 100000 in
theorem law_addDoorstep {p9 : Program} {l : Launch} {e9 : Env} {s9 : State} {m9 : MethodId} {b9 : List Frame} {t9 : Method} {c9 : Code} {A9 : Nat → Prop} {G : va_G} {cyI cyO cyJ : ClassId} {b Ln : Nat} {xs : Nat → Int32} {Q : State → Prop} {h : Nat} {Ad At As Ac Am : Nat → Nat} {ao i cells slots : Nat} {H : Heap} {locs : List Loc} {ls : Array Slot} (hC : LC p9 l s9 m9 c9 A9 G cyI cyO cyJ b Ln xs) (hi : i + 2 < Ln) (hLn : Ln ≤ 1536) (hcs : cells + 1 ≤ 609290 ∧ slots + 6 ≤ 7268235) (hJ : LJ G cyI cyO cyJ s9 A9 b h Ad At As Ac Am ao i H locs ls)
    (kk : ∀ (H : Heap) (locs : List Loc) (ls : Array Slot), LJ G cyI cyO cyJ s9 A9 b h Ad At As Ac Am ao i H locs ls → W p9 l e9 room_1 s9 m9 #[Value.ref b] b9 t9 c9 H locs (cells + 1) (slots + 6) Q (F0 m9 1444 ls [])) :
    W p9 l e9 room_1 s9 m9 #[Value.ref b] b9 t9 c9 H locs cells slots Q (F0 m9 180 ls []) := by
  obtain ⟨hx, hb, hml, hown, hts, hscr, hbl, hbA, hA, hK, hX, htr⟩ := hC
  obtain ⟨L, D, T, S, C, V, M, f, hP, hD, hS, hl, hR⟩ := hJ
  have hK2 := hK.sub [0, 1] (tys' := TY cyI cyO) rfl
  have hcs0 : cells ≤ 609290 ∧ slots ≤ 7268235 := ⟨by omega, by omega⟩
  have hP : va_P G vwCl (cat [[(h, .inr (5, [.ref (Ad 0), .ref (At 0), .ref (As 0), .ref (Ac 0), .ref (L 6 0)]))], dyW cyI Ad D, dyW cyI At T, shW cyI As S, ctW cyI Ac C, hiW cyI cyO L V, mdW cyI Am M, [(ao, .inl (cyJ, 1, .inr (.inl (f))))]]) H := hP
  have hD : va_D A9 (cat [[(h, .inr (5, [.ref (Ad 0), .ref (At 0), .ref (As 0), .ref (Ac 0), .ref (L 6 0)]))], dyW cyI Ad D, dyW cyI At T, shW cyI As S, ctW cyI Ac C, hiW cyI cyO L V, mdW cyI Am M, [(ao, .inl (cyJ, 1, .inr (.inl (f))))]]) := hD
  refine lv_aload_n hx hb dL_law_180 rfl (lv_at hl 3 rfl) ?_
  refine lv_aload_n hx hb dL_law_181 rfl (lv_at hl 4 rfl) ?_
  refine lv_iload hx hb dL_law_182 (lv_at hl 0 rfl) ?_
  refine lv_iconst (v := (1 : Int32)) hx hb dL_law_184 (by decide) ?_
  refine lv_iadd hx hb dL_law_185 ?_
  refine top_i (x' := nI (i + 1)) (nI_add (i) (1)) ?_
  refine va_sld hx hb hscr hbl hbA hS (vp_in_nI (n := i + 1) (by omega) (by omega)) dL_law_186 ?_
  refine top_i (x' := xs (i + 1)) (by rw [nI_clamp (by omega)]) ?_
  refine lv_aload_n hx hb dL_law_187 rfl (lv_at hl 1 rfl) ?_
  obtain ⟨k, L', D', V', f', M', a', hM, hm, ⟨hth, hans⟩, hR'⟩ := s_addDoorstep l G cyI cyO cyJ h Ad At As Ac Am ao L D T S C V M f (xs (i + 1)) htr hR
  refine gHi (gs := [[(h, .inr (5, [.ref (Ad 0), .ref (At 0), .ref (As 0), .ref (Ac 0), .ref (L 6 0)]))], dyW cyI Ad D, dyW cyI At T, shW cyI As S, ctW cyI Ac C, hiW cyI cyO L V, mdW cyI Am M, [(ao, .inl (cyJ, 1, .inr (.inl (f))))]]) (As := [.ref (h), .int (xs (i + 1)), .ref (ao)]) (rest := []) ⟨hx, hb, hml, hown, hts⟩ hM (vx_cwSW 3 hts gL_law_L_addDoorstep rfl rfl rfl (by decide +kernel) ⟨Nat.le_of_ble_eq_true rfl, Nat.le_of_ble_eq_true rfl⟩) hK hX hP hD hS hA [0, 1, 5, 7] rfl rfl rfl rfl hl.1 rfl (Nat.le_of_ble_eq_true rfl) dL_law_188 hcs (fun H locs hP hD hS => ?_)
  have hP : va_P G vwCl (cat [[(h, .inr (5, [.ref (Ad 0), .ref (At 0), .ref (As 0), .ref (Ac 0), .ref (L' 6 0)]))], dyW cyI Ad D', dyW cyI At T, shW cyI As S, ctW cyI Ac C, hiW cyI cyO L' V', mdW cyI Am M, [(ao, .inl (cyJ, 1, .inr (.inl (f'))))]]) H := hP
  have hD : va_D A9 (cat [[(h, .inr (5, [.ref (Ad 0), .ref (At 0), .ref (As 0), .ref (Ac 0), .ref (L' 6 0)]))], dyW cyI Ad D', dyW cyI At T, shW cyI As S, ctW cyI Ac C, hiW cyI cyO L' V', mdW cyI Am M, [(ao, .inl (cyJ, 1, .inr (.inl (f'))))]]) := hD
  refine lv_istore (lv' := [(5, .int (k)), (4, .int (nI (i))), (3, .ref (ao)), (2, .ref (Am 0)), (1, .ref (h)), (0, .ref (b))]) hx hb dL_law_191 hl (by decide) rfl (fun ls hl => ?_)
  refine lv_aload_n hx hb dL_law_193 rfl (lv_at hl 3 rfl) ?_
  refine lv_aload_n hx hb dL_law_194 rfl (lv_at hl 5 rfl) ?_
  refine lv_iload hx hb dL_law_195 (lv_at hl 1 rfl) ?_
  refine lv_iconst (v := (1 : Int32)) hx hb dL_law_197 (by decide) ?_
  refine lv_iadd hx hb dL_law_198 ?_
  refine top_i (x' := nI (i + 1)) (nI_add (i) (1)) ?_
  refine va_sld hx hb hscr hbl hbA hS (vp_in_nI (n := i + 1) (by omega) (by omega)) dL_law_199 ?_
  refine top_i (x' := xs (i + 1)) (by rw [nI_clamp (by omega)]) ?_
  refine gVi (gs := [[(h, .inr (5, [.ref (Ad 0), .ref (At 0), .ref (As 0), .ref (Ac 0), .ref (L' 6 0)]))], dyW cyI Ad D', dyW cyI At T, shW cyI As S, ctW cyI Ac C, hiW cyI cyO L' V', mdW cyI Am M, [(ao, .inl (cyJ, 1, .inr (.inl (f'))))]]) (As := [.int (xs (i + 1))]) (rest := []) ⟨hx, hb, hml, hown, hts⟩ hm (cwV 1 hts gL_law_X6_addDoorstep rfl rfl rfl (by decide +kernel) ⟨Nat.le_of_ble_eq_true rfl, Nat.le_of_ble_eq_true rfl⟩) hK2 hP hD hS hA [6] rfl rfl rfl 0 6 rfl rfl rfl hl.1 rfl (Nat.le_of_ble_eq_true rfl) dL_law_200 hcs (fun H locs hP hD hS => ?_)
  have hP : va_P G vwCl (cat [[(h, .inr (5, [.ref (Ad 0), .ref (At 0), .ref (As 0), .ref (Ac 0), .ref (L' 6 0)]))], dyW cyI Ad D', dyW cyI At T, shW cyI As S, ctW cyI Ac C, hiW cyI cyO L' V', mdW cyI Am M', [(ao, .inl (cyJ, 1, .inr (.inl (f'))))]]) H := hP
  have hD : va_D A9 (cat [[(h, .inr (5, [.ref (Ad 0), .ref (At 0), .ref (As 0), .ref (Ac 0), .ref (L' 6 0)]))], dyW cyI Ad D', dyW cyI At T, shW cyI As S, ctW cyI Ac C, hiW cyI cyO L' V', mdW cyI Am M', [(ao, .inl (cyJ, 1, .inr (.inl (f'))))]]) := hD
  refine lv_istore (lv' := [(6, .int (a')), (5, .int (k)), (4, .int (nI (i))), (3, .ref (ao)), (2, .ref (Am 0)), (1, .ref (h)), (0, .ref (b))]) hx hb dL_law_203 hl (by decide) rfl (fun ls hl => ?_)
  refine lv_aload_n hx hb dL_law_205 rfl (lv_at hl 4 rfl) ?_
  refine gVi (gs := [[(h, .inr (5, [.ref (Ad 0), .ref (At 0), .ref (As 0), .ref (Ac 0), .ref (L' 6 0)]))], dyW cyI Ad D', dyW cyI At T, shW cyI As S, ctW cyI Ac C, hiW cyI cyO L' V', mdW cyI Am M', [(ao, .inl (cyJ, 1, .inr (.inl (f'))))]]) (As := []) (rest := []) ⟨hx, hb, hml, hown, hts⟩ (c_X6_thrown l G cyI cyO Am M') (cwV 0 hts gL_law_X6_thrown rfl rfl rfl (by decide +kernel) ⟨Nat.le_of_ble_eq_true rfl, Nat.le_of_ble_eq_true rfl⟩) hK2 hP hD hS hA [6] rfl rfl rfl 0 6 rfl rfl rfl hl.1 rfl (Nat.le_of_ble_eq_true rfl) dL_law_206 hcs (fun H locs hP hD hS => ?_)
  have hP : va_P G vwCl (cat [[(h, .inr (5, [.ref (Ad 0), .ref (At 0), .ref (As 0), .ref (Ac 0), .ref (L' 6 0)]))], dyW cyI Ad D', dyW cyI At T, shW cyI As S, ctW cyI Ac C, hiW cyI cyO L' V', mdW cyI Am M', [(ao, .inl (cyJ, 1, .inr (.inl (f'))))]]) H := hP
  have hD : va_D A9 (cat [[(h, .inr (5, [.ref (Ad 0), .ref (At 0), .ref (As 0), .ref (Ac 0), .ref (L' 6 0)]))], dyW cyI Ad D', dyW cyI At T, shW cyI As S, ctW cyI Ac C, hiW cyI cyO L' V', mdW cyI Am M', [(ao, .inl (cyJ, 1, .inr (.inl (f'))))]]) := hD
  refine top_i (x' := k) hth ?_
  refine lv_iload hx hb dL_law_209 (lv_at hl 1 rfl) ?_
  refine lv_icmp_eq (tgt := 216) hx hb dL_law_211 (by decide) (fun c_211 => ?_) (fun c_211 => ?_)
  · refine lv_iload hx hb dL_law_216 (lv_at hl 1 rfl) ?_
    refine lv_if_ne (tgt := 233) hx hb dL_law_218 (by decide) (fun c_218 => ?_) (fun c_218 => ?_)
    · refine lv_goto (tgt := 1444) hx hb dL_law_233 (by decide) ?_
      exact kk _ _ _ ⟨L', D', T, S, C, V', M', f', hP, hD, hS, lv_sub hl [2, 3, 4, 5, 6] rfl, hR'⟩
    · refine lv_aload_n hx hb dL_law_221 rfl (lv_at hl 3 rfl) ?_
      refine lv_iconst (v := (0 : Int32)) hx hb dL_law_222 (by decide) ?_
      refine va_lald (f := f') hx hb hK hP 115 2 rfl rfl in01 dL_law_223 ?_
      refine top_l (x' := f' 0) rfl ?_
      refine top_l (x' := a'.toInt64) (hans c_218) ?_
      refine lv_iload hx hb dL_law_224 (lv_at hl 0 rfl) ?_
      refine lv_i2l (v := a'.toInt64) hx hb dL_law_226 rfl ?_
      refine W.lcmp hx hb dL_law_227 ?_
      refine lv_if_eq (tgt := 233) hx hb dL_law_228 (by decide) (fun c_228 => ?_) (fun c_228 => ?_)
      · refine lv_goto (tgt := 1444) hx hb dL_law_233 (by decide) ?_
        exact kk _ _ _ ⟨L', D', T, S, C, V', M', f', hP, hD, hS, lv_sub hl [2, 3, 4, 5, 6] rfl, hR'⟩
      · exact absurd (lg_self _) c_228
  · exact absurd rfl c_211
set_option maxHeartbeats 4000000 in
set_option maxRecDepth 100000 in
theorem law_removeDoorstep {p9 : Program} {l : Launch} {e9 : Env} {s9 : State} {m9 : MethodId} {b9 : List Frame} {t9 : Method} {c9 : Code} {A9 : Nat → Prop} {G : va_G} {cyI cyO cyJ : ClassId} {b Ln : Nat} {xs : Nat → Int32} {Q : State → Prop} {h : Nat} {Ad At As Ac Am : Nat → Nat} {ao i cells slots : Nat} {H : Heap} {locs : List Loc} {ls : Array Slot} (hC : LC p9 l s9 m9 c9 A9 G cyI cyO cyJ b Ln xs) (hi : i + 2 < Ln) (hLn : Ln ≤ 1536) (hcs : cells + 1 ≤ 609290 ∧ slots + 6 ≤ 7268235) (hJ : LJ G cyI cyO cyJ s9 A9 b h Ad At As Ac Am ao i H locs ls)
    (kk : ∀ (H : Heap) (locs : List Loc) (ls : Array Slot), LJ G cyI cyO cyJ s9 A9 b h Ad At As Ac Am ao i H locs ls → W p9 l e9 room_1 s9 m9 #[Value.ref b] b9 t9 c9 H locs (cells + 1) (slots + 6) Q (F0 m9 1444 ls [])) :
    W p9 l e9 room_1 s9 m9 #[Value.ref b] b9 t9 c9 H locs cells slots Q (F0 m9 236 ls []) := by
  obtain ⟨hx, hb, hml, hown, hts, hscr, hbl, hbA, hA, hK, hX, htr⟩ := hC
  obtain ⟨L, D, T, S, C, V, M, f, hP, hD, hS, hl, hR⟩ := hJ
  have hK2 := hK.sub [0, 1] (tys' := TY cyI cyO) rfl
  have hcs0 : cells ≤ 609290 ∧ slots ≤ 7268235 := ⟨by omega, by omega⟩
  have hP : va_P G vwCl (cat [[(h, .inr (5, [.ref (Ad 0), .ref (At 0), .ref (As 0), .ref (Ac 0), .ref (L 6 0)]))], dyW cyI Ad D, dyW cyI At T, shW cyI As S, ctW cyI Ac C, hiW cyI cyO L V, mdW cyI Am M, [(ao, .inl (cyJ, 1, .inr (.inl (f))))]]) H := hP
  have hD : va_D A9 (cat [[(h, .inr (5, [.ref (Ad 0), .ref (At 0), .ref (As 0), .ref (Ac 0), .ref (L 6 0)]))], dyW cyI Ad D, dyW cyI At T, shW cyI As S, ctW cyI Ac C, hiW cyI cyO L V, mdW cyI Am M, [(ao, .inl (cyJ, 1, .inr (.inl (f))))]]) := hD
  refine lv_aload_n hx hb dL_law_236 rfl (lv_at hl 3 rfl) ?_
  refine lv_aload_n hx hb dL_law_237 rfl (lv_at hl 4 rfl) ?_
  refine lv_iload hx hb dL_law_238 (lv_at hl 0 rfl) ?_
  refine lv_iconst (v := (1 : Int32)) hx hb dL_law_240 (by decide) ?_
  refine lv_iadd hx hb dL_law_241 ?_
  refine top_i (x' := nI (i + 1)) (nI_add (i) (1)) ?_
  refine va_sld hx hb hscr hbl hbA hS (vp_in_nI (n := i + 1) (by omega) (by omega)) dL_law_242 ?_
  refine top_i (x' := xs (i + 1)) (by rw [nI_clamp (by omega)]) ?_
  refine lv_aload_n hx hb dL_law_243 rfl (lv_at hl 1 rfl) ?_
  obtain ⟨k, L', D', V', f', M', a', hM, hm, ⟨hth, hans⟩, hR'⟩ := s_removeDoorstep l G cyI cyO cyJ h Ad At As Ac Am ao L D T S C V M f (xs (i + 1)) htr hR
  refine gHi (gs := [[(h, .inr (5, [.ref (Ad 0), .ref (At 0), .ref (As 0), .ref (Ac 0), .ref (L 6 0)]))], dyW cyI Ad D, dyW cyI At T, shW cyI As S, ctW cyI Ac C, hiW cyI cyO L V, mdW cyI Am M, [(ao, .inl (cyJ, 1, .inr (.inl (f))))]]) (As := [.ref (h), .int (xs (i + 1)), .ref (ao)]) (rest := []) ⟨hx, hb, hml, hown, hts⟩ hM (vx_cwSW 3 hts gL_law_L_removeDoorstep rfl rfl rfl (by decide +kernel) ⟨Nat.le_of_ble_eq_true rfl, Nat.le_of_ble_eq_true rfl⟩) hK hX hP hD hS hA [0, 1, 5, 7] rfl rfl rfl rfl hl.1 rfl (Nat.le_of_ble_eq_true rfl) dL_law_244 hcs (fun H locs hP hD hS => ?_)
  have hP : va_P G vwCl (cat [[(h, .inr (5, [.ref (Ad 0), .ref (At 0), .ref (As 0), .ref (Ac 0), .ref (L' 6 0)]))], dyW cyI Ad D', dyW cyI At T, shW cyI As S, ctW cyI Ac C, hiW cyI cyO L' V', mdW cyI Am M, [(ao, .inl (cyJ, 1, .inr (.inl (f'))))]]) H := hP
  have hD : va_D A9 (cat [[(h, .inr (5, [.ref (Ad 0), .ref (At 0), .ref (As 0), .ref (Ac 0), .ref (L' 6 0)]))], dyW cyI Ad D', dyW cyI At T, shW cyI As S, ctW cyI Ac C, hiW cyI cyO L' V', mdW cyI Am M, [(ao, .inl (cyJ, 1, .inr (.inl (f'))))]]) := hD
  refine lv_istore (lv' := [(5, .int (k)), (4, .int (nI (i))), (3, .ref (ao)), (2, .ref (Am 0)), (1, .ref (h)), (0, .ref (b))]) hx hb dL_law_247 hl (by decide) rfl (fun ls hl => ?_)
  refine lv_aload_n hx hb dL_law_249 rfl (lv_at hl 3 rfl) ?_
  refine lv_aload_n hx hb dL_law_250 rfl (lv_at hl 5 rfl) ?_
  refine lv_iload hx hb dL_law_251 (lv_at hl 1 rfl) ?_
  refine lv_iconst (v := (1 : Int32)) hx hb dL_law_253 (by decide) ?_
  refine lv_iadd hx hb dL_law_254 ?_
  refine top_i (x' := nI (i + 1)) (nI_add (i) (1)) ?_
  refine va_sld hx hb hscr hbl hbA hS (vp_in_nI (n := i + 1) (by omega) (by omega)) dL_law_255 ?_
  refine top_i (x' := xs (i + 1)) (by rw [nI_clamp (by omega)]) ?_
  refine gVi (gs := [[(h, .inr (5, [.ref (Ad 0), .ref (At 0), .ref (As 0), .ref (Ac 0), .ref (L' 6 0)]))], dyW cyI Ad D', dyW cyI At T, shW cyI As S, ctW cyI Ac C, hiW cyI cyO L' V', mdW cyI Am M, [(ao, .inl (cyJ, 1, .inr (.inl (f'))))]]) (As := [.int (xs (i + 1))]) (rest := []) ⟨hx, hb, hml, hown, hts⟩ hm (cwV 1 hts gL_law_X6_removeDoorstep rfl rfl rfl (by decide +kernel) ⟨Nat.le_of_ble_eq_true rfl, Nat.le_of_ble_eq_true rfl⟩) hK2 hP hD hS hA [6] rfl rfl rfl 0 6 rfl rfl rfl hl.1 rfl (Nat.le_of_ble_eq_true rfl) dL_law_256 hcs (fun H locs hP hD hS => ?_)
  have hP : va_P G vwCl (cat [[(h, .inr (5, [.ref (Ad 0), .ref (At 0), .ref (As 0), .ref (Ac 0), .ref (L' 6 0)]))], dyW cyI Ad D', dyW cyI At T, shW cyI As S, ctW cyI Ac C, hiW cyI cyO L' V', mdW cyI Am M', [(ao, .inl (cyJ, 1, .inr (.inl (f'))))]]) H := hP
  have hD : va_D A9 (cat [[(h, .inr (5, [.ref (Ad 0), .ref (At 0), .ref (As 0), .ref (Ac 0), .ref (L' 6 0)]))], dyW cyI Ad D', dyW cyI At T, shW cyI As S, ctW cyI Ac C, hiW cyI cyO L' V', mdW cyI Am M', [(ao, .inl (cyJ, 1, .inr (.inl (f'))))]]) := hD
  refine lv_istore (lv' := [(6, .int (a')), (5, .int (k)), (4, .int (nI (i))), (3, .ref (ao)), (2, .ref (Am 0)), (1, .ref (h)), (0, .ref (b))]) hx hb dL_law_259 hl (by decide) rfl (fun ls hl => ?_)
  refine lv_aload_n hx hb dL_law_261 rfl (lv_at hl 4 rfl) ?_
  refine gVi (gs := [[(h, .inr (5, [.ref (Ad 0), .ref (At 0), .ref (As 0), .ref (Ac 0), .ref (L' 6 0)]))], dyW cyI Ad D', dyW cyI At T, shW cyI As S, ctW cyI Ac C, hiW cyI cyO L' V', mdW cyI Am M', [(ao, .inl (cyJ, 1, .inr (.inl (f'))))]]) (As := []) (rest := []) ⟨hx, hb, hml, hown, hts⟩ (c_X6_thrown l G cyI cyO Am M') (cwV 0 hts gL_law_X6_thrown rfl rfl rfl (by decide +kernel) ⟨Nat.le_of_ble_eq_true rfl, Nat.le_of_ble_eq_true rfl⟩) hK2 hP hD hS hA [6] rfl rfl rfl 0 6 rfl rfl rfl hl.1 rfl (Nat.le_of_ble_eq_true rfl) dL_law_262 hcs (fun H locs hP hD hS => ?_)
  have hP : va_P G vwCl (cat [[(h, .inr (5, [.ref (Ad 0), .ref (At 0), .ref (As 0), .ref (Ac 0), .ref (L' 6 0)]))], dyW cyI Ad D', dyW cyI At T, shW cyI As S, ctW cyI Ac C, hiW cyI cyO L' V', mdW cyI Am M', [(ao, .inl (cyJ, 1, .inr (.inl (f'))))]]) H := hP
  have hD : va_D A9 (cat [[(h, .inr (5, [.ref (Ad 0), .ref (At 0), .ref (As 0), .ref (Ac 0), .ref (L' 6 0)]))], dyW cyI Ad D', dyW cyI At T, shW cyI As S, ctW cyI Ac C, hiW cyI cyO L' V', mdW cyI Am M', [(ao, .inl (cyJ, 1, .inr (.inl (f'))))]]) := hD
  refine top_i (x' := k) hth ?_
  refine lv_iload hx hb dL_law_265 (lv_at hl 1 rfl) ?_
  refine lv_icmp_eq (tgt := 272) hx hb dL_law_267 (by decide) (fun c_267 => ?_) (fun c_267 => ?_)
  · refine lv_iload hx hb dL_law_272 (lv_at hl 1 rfl) ?_
    refine lv_if_ne (tgt := 289) hx hb dL_law_274 (by decide) (fun c_274 => ?_) (fun c_274 => ?_)
    · refine lv_goto (tgt := 1444) hx hb dL_law_289 (by decide) ?_
      exact kk _ _ _ ⟨L', D', T, S, C, V', M', f', hP, hD, hS, lv_sub hl [2, 3, 4, 5, 6] rfl, hR'⟩
    · refine lv_aload_n hx hb dL_law_277 rfl (lv_at hl 3 rfl) ?_
      refine lv_iconst (v := (0 : Int32)) hx hb dL_law_278 (by decide) ?_
      refine va_lald (f := f') hx hb hK hP 115 2 rfl rfl in01 dL_law_279 ?_
      refine top_l (x' := f' 0) rfl ?_
      refine top_l (x' := a'.toInt64) (hans c_274) ?_
      refine lv_iload hx hb dL_law_280 (lv_at hl 0 rfl) ?_
      refine lv_i2l (v := a'.toInt64) hx hb dL_law_282 rfl ?_
      refine W.lcmp hx hb dL_law_283 ?_
      refine lv_if_eq (tgt := 289) hx hb dL_law_284 (by decide) (fun c_284 => ?_) (fun c_284 => ?_)
      · refine lv_goto (tgt := 1444) hx hb dL_law_289 (by decide) ?_
        exact kk _ _ _ ⟨L', D', T, S, C, V', M', f', hP, hD, hS, lv_sub hl [2, 3, 4, 5, 6] rfl, hR'⟩
      · exact absurd (lg_self _) c_284
  · exact absurd rfl c_267
set_option maxHeartbeats 4000000 in
set_option maxRecDepth 100000 in
theorem law_setPints {p9 : Program} {l : Launch} {e9 : Env} {s9 : State} {m9 : MethodId} {b9 : List Frame} {t9 : Method} {c9 : Code} {A9 : Nat → Prop} {G : va_G} {cyI cyO cyJ : ClassId} {b Ln : Nat} {xs : Nat → Int32} {Q : State → Prop} {h : Nat} {Ad At As Ac Am : Nat → Nat} {ao i cells slots : Nat} {H : Heap} {locs : List Loc} {ls : Array Slot} (hC : LC p9 l s9 m9 c9 A9 G cyI cyO cyJ b Ln xs) (hi : i + 2 < Ln) (hLn : Ln ≤ 1536) (hcs : cells + 1 ≤ 609290 ∧ slots + 6 ≤ 7268235) (hJ : LJ G cyI cyO cyJ s9 A9 b h Ad At As Ac Am ao i H locs ls)
    (kk : ∀ (H : Heap) (locs : List Loc) (ls : Array Slot), LJ G cyI cyO cyJ s9 A9 b h Ad At As Ac Am ao i H locs ls → W p9 l e9 room_1 s9 m9 #[Value.ref b] b9 t9 c9 H locs (cells + 1) (slots + 6) Q (F0 m9 1444 ls [])) :
    W p9 l e9 room_1 s9 m9 #[Value.ref b] b9 t9 c9 H locs cells slots Q (F0 m9 292 ls []) := by
  obtain ⟨hx, hb, hml, hown, hts, hscr, hbl, hbA, hA, hK, hX, htr⟩ := hC
  obtain ⟨L, D, T, S, C, V, M, f, hP, hD, hS, hl, hR⟩ := hJ
  have hK2 := hK.sub [0, 1] (tys' := TY cyI cyO) rfl
  have hcs0 : cells ≤ 609290 ∧ slots ≤ 7268235 := ⟨by omega, by omega⟩
  have hP : va_P G vwCl (cat [[(h, .inr (5, [.ref (Ad 0), .ref (At 0), .ref (As 0), .ref (Ac 0), .ref (L 6 0)]))], dyW cyI Ad D, dyW cyI At T, shW cyI As S, ctW cyI Ac C, hiW cyI cyO L V, mdW cyI Am M, [(ao, .inl (cyJ, 1, .inr (.inl (f))))]]) H := hP
  have hD : va_D A9 (cat [[(h, .inr (5, [.ref (Ad 0), .ref (At 0), .ref (As 0), .ref (Ac 0), .ref (L 6 0)]))], dyW cyI Ad D, dyW cyI At T, shW cyI As S, ctW cyI Ac C, hiW cyI cyO L V, mdW cyI Am M, [(ao, .inl (cyJ, 1, .inr (.inl (f))))]]) := hD
  refine lv_aload_n hx hb dL_law_292 rfl (lv_at hl 3 rfl) ?_
  refine lv_aload_n hx hb dL_law_293 rfl (lv_at hl 4 rfl) ?_
  refine lv_iload hx hb dL_law_294 (lv_at hl 0 rfl) ?_
  refine lv_iconst (v := (1 : Int32)) hx hb dL_law_296 (by decide) ?_
  refine lv_iadd hx hb dL_law_297 ?_
  refine top_i (x' := nI (i + 1)) (nI_add (i) (1)) ?_
  refine va_sld hx hb hscr hbl hbA hS (vp_in_nI (n := i + 1) (by omega) (by omega)) dL_law_298 ?_
  refine top_i (x' := xs (i + 1)) (by rw [nI_clamp (by omega)]) ?_
  refine lv_aload_n hx hb dL_law_299 rfl (lv_at hl 4 rfl) ?_
  refine lv_iload hx hb dL_law_300 (lv_at hl 0 rfl) ?_
  refine lv_iconst (v := (2 : Int32)) hx hb dL_law_302 (by decide) ?_
  refine lv_iadd hx hb dL_law_303 ?_
  refine top_i (x' := nI (i + 2)) (nI_add (i) (2)) ?_
  refine va_sld hx hb hscr hbl hbA hS (vp_in_nI (n := i + 2) (by omega) (by omega)) dL_law_304 ?_
  refine top_i (x' := xs (i + 2)) (by rw [nI_clamp (by omega)]) ?_
  refine lv_aload_n hx hb dL_law_305 rfl (lv_at hl 1 rfl) ?_
  obtain ⟨k, L', D', V', f', M', a', hM, hm, ⟨hth, hans⟩, hR'⟩ := s_setPints l G cyI cyO cyJ h Ad At As Ac Am ao L D T S C V M f (xs (i + 1)) (xs (i + 2)) htr hR
  refine gHi (gs := [[(h, .inr (5, [.ref (Ad 0), .ref (At 0), .ref (As 0), .ref (Ac 0), .ref (L 6 0)]))], dyW cyI Ad D, dyW cyI At T, shW cyI As S, ctW cyI Ac C, hiW cyI cyO L V, mdW cyI Am M, [(ao, .inl (cyJ, 1, .inr (.inl (f))))]]) (As := [.ref (h), .int (xs (i + 1)), .int (xs (i + 2)), .ref (ao)]) (rest := []) ⟨hx, hb, hml, hown, hts⟩ hM (vx_cwSW 4 hts gL_law_L_setPints rfl rfl rfl (by decide +kernel) ⟨Nat.le_of_ble_eq_true rfl, Nat.le_of_ble_eq_true rfl⟩) hK hX hP hD hS hA [0, 1, 5, 7] rfl rfl rfl rfl hl.1 rfl (Nat.le_of_ble_eq_true rfl) dL_law_306 hcs (fun H locs hP hD hS => ?_)
  have hP : va_P G vwCl (cat [[(h, .inr (5, [.ref (Ad 0), .ref (At 0), .ref (As 0), .ref (Ac 0), .ref (L' 6 0)]))], dyW cyI Ad D', dyW cyI At T, shW cyI As S, ctW cyI Ac C, hiW cyI cyO L' V', mdW cyI Am M, [(ao, .inl (cyJ, 1, .inr (.inl (f'))))]]) H := hP
  have hD : va_D A9 (cat [[(h, .inr (5, [.ref (Ad 0), .ref (At 0), .ref (As 0), .ref (Ac 0), .ref (L' 6 0)]))], dyW cyI Ad D', dyW cyI At T, shW cyI As S, ctW cyI Ac C, hiW cyI cyO L' V', mdW cyI Am M, [(ao, .inl (cyJ, 1, .inr (.inl (f'))))]]) := hD
  refine lv_istore (lv' := [(5, .int (k)), (4, .int (nI (i))), (3, .ref (ao)), (2, .ref (Am 0)), (1, .ref (h)), (0, .ref (b))]) hx hb dL_law_309 hl (by decide) rfl (fun ls hl => ?_)
  refine lv_aload_n hx hb dL_law_311 rfl (lv_at hl 3 rfl) ?_
  refine lv_aload_n hx hb dL_law_312 rfl (lv_at hl 5 rfl) ?_
  refine lv_iload hx hb dL_law_313 (lv_at hl 1 rfl) ?_
  refine lv_iconst (v := (1 : Int32)) hx hb dL_law_315 (by decide) ?_
  refine lv_iadd hx hb dL_law_316 ?_
  refine top_i (x' := nI (i + 1)) (nI_add (i) (1)) ?_
  refine va_sld hx hb hscr hbl hbA hS (vp_in_nI (n := i + 1) (by omega) (by omega)) dL_law_317 ?_
  refine top_i (x' := xs (i + 1)) (by rw [nI_clamp (by omega)]) ?_
  refine lv_aload_n hx hb dL_law_318 rfl (lv_at hl 5 rfl) ?_
  refine lv_iload hx hb dL_law_319 (lv_at hl 1 rfl) ?_
  refine lv_iconst (v := (2 : Int32)) hx hb dL_law_321 (by decide) ?_
  refine lv_iadd hx hb dL_law_322 ?_
  refine top_i (x' := nI (i + 2)) (nI_add (i) (2)) ?_
  refine va_sld hx hb hscr hbl hbA hS (vp_in_nI (n := i + 2) (by omega) (by omega)) dL_law_323 ?_
  refine top_i (x' := xs (i + 2)) (by rw [nI_clamp (by omega)]) ?_
  refine gVi (gs := [[(h, .inr (5, [.ref (Ad 0), .ref (At 0), .ref (As 0), .ref (Ac 0), .ref (L' 6 0)]))], dyW cyI Ad D', dyW cyI At T, shW cyI As S, ctW cyI Ac C, hiW cyI cyO L' V', mdW cyI Am M, [(ao, .inl (cyJ, 1, .inr (.inl (f'))))]]) (As := [.int (xs (i + 1)), .int (xs (i + 2))]) (rest := []) ⟨hx, hb, hml, hown, hts⟩ hm (cwV 2 hts gL_law_X6_setPints rfl rfl rfl (by decide +kernel) ⟨Nat.le_of_ble_eq_true rfl, Nat.le_of_ble_eq_true rfl⟩) hK2 hP hD hS hA [6] rfl rfl rfl 0 6 rfl rfl rfl hl.1 rfl (Nat.le_of_ble_eq_true rfl) dL_law_324 hcs (fun H locs hP hD hS => ?_)
  have hP : va_P G vwCl (cat [[(h, .inr (5, [.ref (Ad 0), .ref (At 0), .ref (As 0), .ref (Ac 0), .ref (L' 6 0)]))], dyW cyI Ad D', dyW cyI At T, shW cyI As S, ctW cyI Ac C, hiW cyI cyO L' V', mdW cyI Am M', [(ao, .inl (cyJ, 1, .inr (.inl (f'))))]]) H := hP
  have hD : va_D A9 (cat [[(h, .inr (5, [.ref (Ad 0), .ref (At 0), .ref (As 0), .ref (Ac 0), .ref (L' 6 0)]))], dyW cyI Ad D', dyW cyI At T, shW cyI As S, ctW cyI Ac C, hiW cyI cyO L' V', mdW cyI Am M', [(ao, .inl (cyJ, 1, .inr (.inl (f'))))]]) := hD
  refine lv_istore (lv' := [(6, .int (a')), (5, .int (k)), (4, .int (nI (i))), (3, .ref (ao)), (2, .ref (Am 0)), (1, .ref (h)), (0, .ref (b))]) hx hb dL_law_327 hl (by decide) rfl (fun ls hl => ?_)
  refine lv_aload_n hx hb dL_law_329 rfl (lv_at hl 4 rfl) ?_
  refine gVi (gs := [[(h, .inr (5, [.ref (Ad 0), .ref (At 0), .ref (As 0), .ref (Ac 0), .ref (L' 6 0)]))], dyW cyI Ad D', dyW cyI At T, shW cyI As S, ctW cyI Ac C, hiW cyI cyO L' V', mdW cyI Am M', [(ao, .inl (cyJ, 1, .inr (.inl (f'))))]]) (As := []) (rest := []) ⟨hx, hb, hml, hown, hts⟩ (c_X6_thrown l G cyI cyO Am M') (cwV 0 hts gL_law_X6_thrown rfl rfl rfl (by decide +kernel) ⟨Nat.le_of_ble_eq_true rfl, Nat.le_of_ble_eq_true rfl⟩) hK2 hP hD hS hA [6] rfl rfl rfl 0 6 rfl rfl rfl hl.1 rfl (Nat.le_of_ble_eq_true rfl) dL_law_330 hcs (fun H locs hP hD hS => ?_)
  have hP : va_P G vwCl (cat [[(h, .inr (5, [.ref (Ad 0), .ref (At 0), .ref (As 0), .ref (Ac 0), .ref (L' 6 0)]))], dyW cyI Ad D', dyW cyI At T, shW cyI As S, ctW cyI Ac C, hiW cyI cyO L' V', mdW cyI Am M', [(ao, .inl (cyJ, 1, .inr (.inl (f'))))]]) H := hP
  have hD : va_D A9 (cat [[(h, .inr (5, [.ref (Ad 0), .ref (At 0), .ref (As 0), .ref (Ac 0), .ref (L' 6 0)]))], dyW cyI Ad D', dyW cyI At T, shW cyI As S, ctW cyI Ac C, hiW cyI cyO L' V', mdW cyI Am M', [(ao, .inl (cyJ, 1, .inr (.inl (f'))))]]) := hD
  refine top_i (x' := k) hth ?_
  refine lv_iload hx hb dL_law_333 (lv_at hl 1 rfl) ?_
  refine lv_icmp_eq (tgt := 340) hx hb dL_law_335 (by decide) (fun c_335 => ?_) (fun c_335 => ?_)
  · refine lv_iload hx hb dL_law_340 (lv_at hl 1 rfl) ?_
    refine lv_if_ne (tgt := 357) hx hb dL_law_342 (by decide) (fun c_342 => ?_) (fun c_342 => ?_)
    · refine lv_goto (tgt := 1444) hx hb dL_law_357 (by decide) ?_
      exact kk _ _ _ ⟨L', D', T, S, C, V', M', f', hP, hD, hS, lv_sub hl [2, 3, 4, 5, 6] rfl, hR'⟩
    · refine lv_aload_n hx hb dL_law_345 rfl (lv_at hl 3 rfl) ?_
      refine lv_iconst (v := (0 : Int32)) hx hb dL_law_346 (by decide) ?_
      refine va_lald (f := f') hx hb hK hP 115 2 rfl rfl in01 dL_law_347 ?_
      refine top_l (x' := f' 0) rfl ?_
      refine top_l (x' := a'.toInt64) (hans c_342) ?_
      refine lv_iload hx hb dL_law_348 (lv_at hl 0 rfl) ?_
      refine lv_i2l (v := a'.toInt64) hx hb dL_law_350 rfl ?_
      refine W.lcmp hx hb dL_law_351 ?_
      refine lv_if_eq (tgt := 357) hx hb dL_law_352 (by decide) (fun c_352 => ?_) (fun c_352 => ?_)
      · refine lv_goto (tgt := 1444) hx hb dL_law_357 (by decide) ?_
        exact kk _ _ _ ⟨L', D', T, S, C, V', M', f', hP, hD, hS, lv_sub hl [2, 3, 4, 5, 6] rfl, hR'⟩
      · exact absurd (lg_self _) c_352
  · exact absurd rfl c_335
set_option maxHeartbeats 4000000 in
set_option maxRecDepth 100000 in
theorem law_come {p9 : Program} {l : Launch} {e9 : Env} {s9 : State} {m9 : MethodId} {b9 : List Frame} {t9 : Method} {c9 : Code} {A9 : Nat → Prop} {G : va_G} {cyI cyO cyJ : ClassId} {b Ln : Nat} {xs : Nat → Int32} {Q : State → Prop} {h : Nat} {Ad At As Ac Am : Nat → Nat} {ao i cells slots : Nat} {H : Heap} {locs : List Loc} {ls : Array Slot} (hC : LC p9 l s9 m9 c9 A9 G cyI cyO cyJ b Ln xs) (hi : i + 2 < Ln) (hLn : Ln ≤ 1536) (hcs : cells + 1 ≤ 609290 ∧ slots + 6 ≤ 7268235) (hJ : LJ G cyI cyO cyJ s9 A9 b h Ad At As Ac Am ao i H locs ls)
    (kk : ∀ (H : Heap) (locs : List Loc) (ls : Array Slot), LJ G cyI cyO cyJ s9 A9 b h Ad At As Ac Am ao i H locs ls → W p9 l e9 room_1 s9 m9 #[Value.ref b] b9 t9 c9 H locs (cells + 1) (slots + 6) Q (F0 m9 1444 ls [])) :
    W p9 l e9 room_1 s9 m9 #[Value.ref b] b9 t9 c9 H locs cells slots Q (F0 m9 360 ls []) := by
  obtain ⟨hx, hb, hml, hown, hts, hscr, hbl, hbA, hA, hK, hX, htr⟩ := hC
  obtain ⟨L, D, T, S, C, V, M, f, hP, hD, hS, hl, hR⟩ := hJ
  have hK2 := hK.sub [0, 1] (tys' := TY cyI cyO) rfl
  have hcs0 : cells ≤ 609290 ∧ slots ≤ 7268235 := ⟨by omega, by omega⟩
  have hP : va_P G vwCl (cat [[(h, .inr (5, [.ref (Ad 0), .ref (At 0), .ref (As 0), .ref (Ac 0), .ref (L 6 0)]))], dyW cyI Ad D, dyW cyI At T, shW cyI As S, ctW cyI Ac C, hiW cyI cyO L V, mdW cyI Am M, [(ao, .inl (cyJ, 1, .inr (.inl (f))))]]) H := hP
  have hD : va_D A9 (cat [[(h, .inr (5, [.ref (Ad 0), .ref (At 0), .ref (As 0), .ref (Ac 0), .ref (L 6 0)]))], dyW cyI Ad D, dyW cyI At T, shW cyI As S, ctW cyI Ac C, hiW cyI cyO L V, mdW cyI Am M, [(ao, .inl (cyJ, 1, .inr (.inl (f))))]]) := hD
  refine lv_aload_n hx hb dL_law_360 rfl (lv_at hl 3 rfl) ?_
  refine lv_aload_n hx hb dL_law_361 rfl (lv_at hl 4 rfl) ?_
  refine lv_iload hx hb dL_law_362 (lv_at hl 0 rfl) ?_
  refine lv_iconst (v := (1 : Int32)) hx hb dL_law_364 (by decide) ?_
  refine lv_iadd hx hb dL_law_365 ?_
  refine top_i (x' := nI (i + 1)) (nI_add (i) (1)) ?_
  refine va_sld hx hb hscr hbl hbA hS (vp_in_nI (n := i + 1) (by omega) (by omega)) dL_law_366 ?_
  refine top_i (x' := xs (i + 1)) (by rw [nI_clamp (by omega)]) ?_
  refine lv_aload_n hx hb dL_law_367 rfl (lv_at hl 1 rfl) ?_
  obtain ⟨k, L', D', V', f', M', a', hM, hm, ⟨hth, hans⟩, hR'⟩ := s_come l G cyI cyO cyJ h Ad At As Ac Am ao L D T S C V M f (xs (i + 1)) htr hR
  refine gHi (gs := [[(h, .inr (5, [.ref (Ad 0), .ref (At 0), .ref (As 0), .ref (Ac 0), .ref (L 6 0)]))], dyW cyI Ad D, dyW cyI At T, shW cyI As S, ctW cyI Ac C, hiW cyI cyO L V, mdW cyI Am M, [(ao, .inl (cyJ, 1, .inr (.inl (f))))]]) (As := [.ref (h), .int (xs (i + 1)), .ref (ao)]) (rest := []) ⟨hx, hb, hml, hown, hts⟩ hM (vx_cwSW 3 hts gL_law_L_come rfl rfl rfl (by decide +kernel) ⟨Nat.le_of_ble_eq_true rfl, Nat.le_of_ble_eq_true rfl⟩) hK hX hP hD hS hA [0, 1, 5, 7] rfl rfl rfl rfl hl.1 rfl (Nat.le_of_ble_eq_true rfl) dL_law_368 hcs (fun H locs hP hD hS => ?_)
  have hP : va_P G vwCl (cat [[(h, .inr (5, [.ref (Ad 0), .ref (At 0), .ref (As 0), .ref (Ac 0), .ref (L' 6 0)]))], dyW cyI Ad D', dyW cyI At T, shW cyI As S, ctW cyI Ac C, hiW cyI cyO L' V', mdW cyI Am M, [(ao, .inl (cyJ, 1, .inr (.inl (f'))))]]) H := hP
  have hD : va_D A9 (cat [[(h, .inr (5, [.ref (Ad 0), .ref (At 0), .ref (As 0), .ref (Ac 0), .ref (L' 6 0)]))], dyW cyI Ad D', dyW cyI At T, shW cyI As S, ctW cyI Ac C, hiW cyI cyO L' V', mdW cyI Am M, [(ao, .inl (cyJ, 1, .inr (.inl (f'))))]]) := hD
  refine lv_istore (lv' := [(5, .int (k)), (4, .int (nI (i))), (3, .ref (ao)), (2, .ref (Am 0)), (1, .ref (h)), (0, .ref (b))]) hx hb dL_law_371 hl (by decide) rfl (fun ls hl => ?_)
  refine lv_aload_n hx hb dL_law_373 rfl (lv_at hl 3 rfl) ?_
  refine lv_aload_n hx hb dL_law_374 rfl (lv_at hl 5 rfl) ?_
  refine lv_iload hx hb dL_law_375 (lv_at hl 1 rfl) ?_
  refine lv_iconst (v := (1 : Int32)) hx hb dL_law_377 (by decide) ?_
  refine lv_iadd hx hb dL_law_378 ?_
  refine top_i (x' := nI (i + 1)) (nI_add (i) (1)) ?_
  refine va_sld hx hb hscr hbl hbA hS (vp_in_nI (n := i + 1) (by omega) (by omega)) dL_law_379 ?_
  refine top_i (x' := xs (i + 1)) (by rw [nI_clamp (by omega)]) ?_
  refine gVi (gs := [[(h, .inr (5, [.ref (Ad 0), .ref (At 0), .ref (As 0), .ref (Ac 0), .ref (L' 6 0)]))], dyW cyI Ad D', dyW cyI At T, shW cyI As S, ctW cyI Ac C, hiW cyI cyO L' V', mdW cyI Am M, [(ao, .inl (cyJ, 1, .inr (.inl (f'))))]]) (As := [.int (xs (i + 1))]) (rest := []) ⟨hx, hb, hml, hown, hts⟩ hm (cwV 1 hts gL_law_X6_come rfl rfl rfl (by decide +kernel) ⟨Nat.le_of_ble_eq_true rfl, Nat.le_of_ble_eq_true rfl⟩) hK2 hP hD hS hA [6] rfl rfl rfl 0 6 rfl rfl rfl hl.1 rfl (Nat.le_of_ble_eq_true rfl) dL_law_380 hcs (fun H locs hP hD hS => ?_)
  have hP : va_P G vwCl (cat [[(h, .inr (5, [.ref (Ad 0), .ref (At 0), .ref (As 0), .ref (Ac 0), .ref (L' 6 0)]))], dyW cyI Ad D', dyW cyI At T, shW cyI As S, ctW cyI Ac C, hiW cyI cyO L' V', mdW cyI Am M', [(ao, .inl (cyJ, 1, .inr (.inl (f'))))]]) H := hP
  have hD : va_D A9 (cat [[(h, .inr (5, [.ref (Ad 0), .ref (At 0), .ref (As 0), .ref (Ac 0), .ref (L' 6 0)]))], dyW cyI Ad D', dyW cyI At T, shW cyI As S, ctW cyI Ac C, hiW cyI cyO L' V', mdW cyI Am M', [(ao, .inl (cyJ, 1, .inr (.inl (f'))))]]) := hD
  refine lv_istore (lv' := [(6, .int (a')), (5, .int (k)), (4, .int (nI (i))), (3, .ref (ao)), (2, .ref (Am 0)), (1, .ref (h)), (0, .ref (b))]) hx hb dL_law_383 hl (by decide) rfl (fun ls hl => ?_)
  refine lv_aload_n hx hb dL_law_385 rfl (lv_at hl 4 rfl) ?_
  refine gVi (gs := [[(h, .inr (5, [.ref (Ad 0), .ref (At 0), .ref (As 0), .ref (Ac 0), .ref (L' 6 0)]))], dyW cyI Ad D', dyW cyI At T, shW cyI As S, ctW cyI Ac C, hiW cyI cyO L' V', mdW cyI Am M', [(ao, .inl (cyJ, 1, .inr (.inl (f'))))]]) (As := []) (rest := []) ⟨hx, hb, hml, hown, hts⟩ (c_X6_thrown l G cyI cyO Am M') (cwV 0 hts gL_law_X6_thrown rfl rfl rfl (by decide +kernel) ⟨Nat.le_of_ble_eq_true rfl, Nat.le_of_ble_eq_true rfl⟩) hK2 hP hD hS hA [6] rfl rfl rfl 0 6 rfl rfl rfl hl.1 rfl (Nat.le_of_ble_eq_true rfl) dL_law_386 hcs (fun H locs hP hD hS => ?_)
  have hP : va_P G vwCl (cat [[(h, .inr (5, [.ref (Ad 0), .ref (At 0), .ref (As 0), .ref (Ac 0), .ref (L' 6 0)]))], dyW cyI Ad D', dyW cyI At T, shW cyI As S, ctW cyI Ac C, hiW cyI cyO L' V', mdW cyI Am M', [(ao, .inl (cyJ, 1, .inr (.inl (f'))))]]) H := hP
  have hD : va_D A9 (cat [[(h, .inr (5, [.ref (Ad 0), .ref (At 0), .ref (As 0), .ref (Ac 0), .ref (L' 6 0)]))], dyW cyI Ad D', dyW cyI At T, shW cyI As S, ctW cyI Ac C, hiW cyI cyO L' V', mdW cyI Am M', [(ao, .inl (cyJ, 1, .inr (.inl (f'))))]]) := hD
  refine top_i (x' := k) hth ?_
  refine lv_iload hx hb dL_law_389 (lv_at hl 1 rfl) ?_
  refine lv_icmp_eq (tgt := 396) hx hb dL_law_391 (by decide) (fun c_391 => ?_) (fun c_391 => ?_)
  · refine lv_iload hx hb dL_law_396 (lv_at hl 1 rfl) ?_
    refine lv_if_ne (tgt := 413) hx hb dL_law_398 (by decide) (fun c_398 => ?_) (fun c_398 => ?_)
    · refine lv_goto (tgt := 1444) hx hb dL_law_413 (by decide) ?_
      exact kk _ _ _ ⟨L', D', T, S, C, V', M', f', hP, hD, hS, lv_sub hl [2, 3, 4, 5, 6] rfl, hR'⟩
    · refine lv_aload_n hx hb dL_law_401 rfl (lv_at hl 3 rfl) ?_
      refine lv_iconst (v := (0 : Int32)) hx hb dL_law_402 (by decide) ?_
      refine va_lald (f := f') hx hb hK hP 115 2 rfl rfl in01 dL_law_403 ?_
      refine top_l (x' := f' 0) rfl ?_
      refine top_l (x' := a'.toInt64) (hans c_398) ?_
      refine lv_iload hx hb dL_law_404 (lv_at hl 0 rfl) ?_
      refine lv_i2l (v := a'.toInt64) hx hb dL_law_406 rfl ?_
      refine W.lcmp hx hb dL_law_407 ?_
      refine lv_if_eq (tgt := 413) hx hb dL_law_408 (by decide) (fun c_408 => ?_) (fun c_408 => ?_)
      · refine lv_goto (tgt := 1444) hx hb dL_law_413 (by decide) ?_
        exact kk _ _ _ ⟨L', D', T, S, C, V', M', f', hP, hD, hS, lv_sub hl [2, 3, 4, 5, 6] rfl, hR'⟩
      · exact absurd (lg_self _) c_408
  · exact absurd rfl c_391
set_option maxHeartbeats 4000000 in
set_option maxRecDepth 100000 in
theorem law_leave {p9 : Program} {l : Launch} {e9 : Env} {s9 : State} {m9 : MethodId} {b9 : List Frame} {t9 : Method} {c9 : Code} {A9 : Nat → Prop} {G : va_G} {cyI cyO cyJ : ClassId} {b Ln : Nat} {xs : Nat → Int32} {Q : State → Prop} {h : Nat} {Ad At As Ac Am : Nat → Nat} {ao i cells slots : Nat} {H : Heap} {locs : List Loc} {ls : Array Slot} (hC : LC p9 l s9 m9 c9 A9 G cyI cyO cyJ b Ln xs) (hi : i + 2 < Ln) (hLn : Ln ≤ 1536) (hcs : cells + 1 ≤ 609290 ∧ slots + 6 ≤ 7268235) (hJ : LJ G cyI cyO cyJ s9 A9 b h Ad At As Ac Am ao i H locs ls)
    (kk : ∀ (H : Heap) (locs : List Loc) (ls : Array Slot), LJ G cyI cyO cyJ s9 A9 b h Ad At As Ac Am ao i H locs ls → W p9 l e9 room_1 s9 m9 #[Value.ref b] b9 t9 c9 H locs (cells + 1) (slots + 6) Q (F0 m9 1444 ls [])) :
    W p9 l e9 room_1 s9 m9 #[Value.ref b] b9 t9 c9 H locs cells slots Q (F0 m9 416 ls []) := by
  obtain ⟨hx, hb, hml, hown, hts, hscr, hbl, hbA, hA, hK, hX, htr⟩ := hC
  obtain ⟨L, D, T, S, C, V, M, f, hP, hD, hS, hl, hR⟩ := hJ
  have hK2 := hK.sub [0, 1] (tys' := TY cyI cyO) rfl
  have hcs0 : cells ≤ 609290 ∧ slots ≤ 7268235 := ⟨by omega, by omega⟩
  have hP : va_P G vwCl (cat [[(h, .inr (5, [.ref (Ad 0), .ref (At 0), .ref (As 0), .ref (Ac 0), .ref (L 6 0)]))], dyW cyI Ad D, dyW cyI At T, shW cyI As S, ctW cyI Ac C, hiW cyI cyO L V, mdW cyI Am M, [(ao, .inl (cyJ, 1, .inr (.inl (f))))]]) H := hP
  have hD : va_D A9 (cat [[(h, .inr (5, [.ref (Ad 0), .ref (At 0), .ref (As 0), .ref (Ac 0), .ref (L 6 0)]))], dyW cyI Ad D, dyW cyI At T, shW cyI As S, ctW cyI Ac C, hiW cyI cyO L V, mdW cyI Am M, [(ao, .inl (cyJ, 1, .inr (.inl (f))))]]) := hD
  refine lv_aload_n hx hb dL_law_416 rfl (lv_at hl 3 rfl) ?_
  refine lv_aload_n hx hb dL_law_417 rfl (lv_at hl 4 rfl) ?_
  refine lv_iload hx hb dL_law_418 (lv_at hl 0 rfl) ?_
  refine lv_iconst (v := (1 : Int32)) hx hb dL_law_420 (by decide) ?_
  refine lv_iadd hx hb dL_law_421 ?_
  refine top_i (x' := nI (i + 1)) (nI_add (i) (1)) ?_
  refine va_sld hx hb hscr hbl hbA hS (vp_in_nI (n := i + 1) (by omega) (by omega)) dL_law_422 ?_
  refine top_i (x' := xs (i + 1)) (by rw [nI_clamp (by omega)]) ?_
  refine lv_aload_n hx hb dL_law_423 rfl (lv_at hl 1 rfl) ?_
  obtain ⟨k, L', D', V', f', M', a', hM, hm, ⟨hth, hans⟩, hR'⟩ := s_leave l G cyI cyO cyJ h Ad At As Ac Am ao L D T S C V M f (xs (i + 1)) htr hR
  refine gHi (gs := [[(h, .inr (5, [.ref (Ad 0), .ref (At 0), .ref (As 0), .ref (Ac 0), .ref (L 6 0)]))], dyW cyI Ad D, dyW cyI At T, shW cyI As S, ctW cyI Ac C, hiW cyI cyO L V, mdW cyI Am M, [(ao, .inl (cyJ, 1, .inr (.inl (f))))]]) (As := [.ref (h), .int (xs (i + 1)), .ref (ao)]) (rest := []) ⟨hx, hb, hml, hown, hts⟩ hM (vx_cwSW 3 hts gL_law_L_leave rfl rfl rfl (by decide +kernel) ⟨Nat.le_of_ble_eq_true rfl, Nat.le_of_ble_eq_true rfl⟩) hK hX hP hD hS hA [0, 1, 5, 7] rfl rfl rfl rfl hl.1 rfl (Nat.le_of_ble_eq_true rfl) dL_law_424 hcs (fun H locs hP hD hS => ?_)
  have hP : va_P G vwCl (cat [[(h, .inr (5, [.ref (Ad 0), .ref (At 0), .ref (As 0), .ref (Ac 0), .ref (L' 6 0)]))], dyW cyI Ad D', dyW cyI At T, shW cyI As S, ctW cyI Ac C, hiW cyI cyO L' V', mdW cyI Am M, [(ao, .inl (cyJ, 1, .inr (.inl (f'))))]]) H := hP
  have hD : va_D A9 (cat [[(h, .inr (5, [.ref (Ad 0), .ref (At 0), .ref (As 0), .ref (Ac 0), .ref (L' 6 0)]))], dyW cyI Ad D', dyW cyI At T, shW cyI As S, ctW cyI Ac C, hiW cyI cyO L' V', mdW cyI Am M, [(ao, .inl (cyJ, 1, .inr (.inl (f'))))]]) := hD
  refine lv_istore (lv' := [(5, .int (k)), (4, .int (nI (i))), (3, .ref (ao)), (2, .ref (Am 0)), (1, .ref (h)), (0, .ref (b))]) hx hb dL_law_427 hl (by decide) rfl (fun ls hl => ?_)
  refine lv_aload_n hx hb dL_law_429 rfl (lv_at hl 3 rfl) ?_
  refine lv_aload_n hx hb dL_law_430 rfl (lv_at hl 5 rfl) ?_
  refine lv_iload hx hb dL_law_431 (lv_at hl 1 rfl) ?_
  refine lv_iconst (v := (1 : Int32)) hx hb dL_law_433 (by decide) ?_
  refine lv_iadd hx hb dL_law_434 ?_
  refine top_i (x' := nI (i + 1)) (nI_add (i) (1)) ?_
  refine va_sld hx hb hscr hbl hbA hS (vp_in_nI (n := i + 1) (by omega) (by omega)) dL_law_435 ?_
  refine top_i (x' := xs (i + 1)) (by rw [nI_clamp (by omega)]) ?_
  refine gVi (gs := [[(h, .inr (5, [.ref (Ad 0), .ref (At 0), .ref (As 0), .ref (Ac 0), .ref (L' 6 0)]))], dyW cyI Ad D', dyW cyI At T, shW cyI As S, ctW cyI Ac C, hiW cyI cyO L' V', mdW cyI Am M, [(ao, .inl (cyJ, 1, .inr (.inl (f'))))]]) (As := [.int (xs (i + 1))]) (rest := []) ⟨hx, hb, hml, hown, hts⟩ hm (cwV 1 hts gL_law_X6_leave rfl rfl rfl (by decide +kernel) ⟨Nat.le_of_ble_eq_true rfl, Nat.le_of_ble_eq_true rfl⟩) hK2 hP hD hS hA [6] rfl rfl rfl 0 6 rfl rfl rfl hl.1 rfl (Nat.le_of_ble_eq_true rfl) dL_law_436 hcs (fun H locs hP hD hS => ?_)
  have hP : va_P G vwCl (cat [[(h, .inr (5, [.ref (Ad 0), .ref (At 0), .ref (As 0), .ref (Ac 0), .ref (L' 6 0)]))], dyW cyI Ad D', dyW cyI At T, shW cyI As S, ctW cyI Ac C, hiW cyI cyO L' V', mdW cyI Am M', [(ao, .inl (cyJ, 1, .inr (.inl (f'))))]]) H := hP
  have hD : va_D A9 (cat [[(h, .inr (5, [.ref (Ad 0), .ref (At 0), .ref (As 0), .ref (Ac 0), .ref (L' 6 0)]))], dyW cyI Ad D', dyW cyI At T, shW cyI As S, ctW cyI Ac C, hiW cyI cyO L' V', mdW cyI Am M', [(ao, .inl (cyJ, 1, .inr (.inl (f'))))]]) := hD
  refine lv_istore (lv' := [(6, .int (a')), (5, .int (k)), (4, .int (nI (i))), (3, .ref (ao)), (2, .ref (Am 0)), (1, .ref (h)), (0, .ref (b))]) hx hb dL_law_439 hl (by decide) rfl (fun ls hl => ?_)
  refine lv_aload_n hx hb dL_law_441 rfl (lv_at hl 4 rfl) ?_
  refine gVi (gs := [[(h, .inr (5, [.ref (Ad 0), .ref (At 0), .ref (As 0), .ref (Ac 0), .ref (L' 6 0)]))], dyW cyI Ad D', dyW cyI At T, shW cyI As S, ctW cyI Ac C, hiW cyI cyO L' V', mdW cyI Am M', [(ao, .inl (cyJ, 1, .inr (.inl (f'))))]]) (As := []) (rest := []) ⟨hx, hb, hml, hown, hts⟩ (c_X6_thrown l G cyI cyO Am M') (cwV 0 hts gL_law_X6_thrown rfl rfl rfl (by decide +kernel) ⟨Nat.le_of_ble_eq_true rfl, Nat.le_of_ble_eq_true rfl⟩) hK2 hP hD hS hA [6] rfl rfl rfl 0 6 rfl rfl rfl hl.1 rfl (Nat.le_of_ble_eq_true rfl) dL_law_442 hcs (fun H locs hP hD hS => ?_)
  have hP : va_P G vwCl (cat [[(h, .inr (5, [.ref (Ad 0), .ref (At 0), .ref (As 0), .ref (Ac 0), .ref (L' 6 0)]))], dyW cyI Ad D', dyW cyI At T, shW cyI As S, ctW cyI Ac C, hiW cyI cyO L' V', mdW cyI Am M', [(ao, .inl (cyJ, 1, .inr (.inl (f'))))]]) H := hP
  have hD : va_D A9 (cat [[(h, .inr (5, [.ref (Ad 0), .ref (At 0), .ref (As 0), .ref (Ac 0), .ref (L' 6 0)]))], dyW cyI Ad D', dyW cyI At T, shW cyI As S, ctW cyI Ac C, hiW cyI cyO L' V', mdW cyI Am M', [(ao, .inl (cyJ, 1, .inr (.inl (f'))))]]) := hD
  refine top_i (x' := k) hth ?_
  refine lv_iload hx hb dL_law_445 (lv_at hl 1 rfl) ?_
  refine lv_icmp_eq (tgt := 452) hx hb dL_law_447 (by decide) (fun c_447 => ?_) (fun c_447 => ?_)
  · refine lv_iload hx hb dL_law_452 (lv_at hl 1 rfl) ?_
    refine lv_if_ne (tgt := 469) hx hb dL_law_454 (by decide) (fun c_454 => ?_) (fun c_454 => ?_)
    · refine lv_goto (tgt := 1444) hx hb dL_law_469 (by decide) ?_
      exact kk _ _ _ ⟨L', D', T, S, C, V', M', f', hP, hD, hS, lv_sub hl [2, 3, 4, 5, 6] rfl, hR'⟩
    · refine lv_aload_n hx hb dL_law_457 rfl (lv_at hl 3 rfl) ?_
      refine lv_iconst (v := (0 : Int32)) hx hb dL_law_458 (by decide) ?_
      refine va_lald (f := f') hx hb hK hP 115 2 rfl rfl in01 dL_law_459 ?_
      refine top_l (x' := f' 0) rfl ?_
      refine top_l (x' := a'.toInt64) (hans c_454) ?_
      refine lv_iload hx hb dL_law_460 (lv_at hl 0 rfl) ?_
      refine lv_i2l (v := a'.toInt64) hx hb dL_law_462 rfl ?_
      refine W.lcmp hx hb dL_law_463 ?_
      refine lv_if_eq (tgt := 469) hx hb dL_law_464 (by decide) (fun c_464 => ?_) (fun c_464 => ?_)
      · refine lv_goto (tgt := 1444) hx hb dL_law_469 (by decide) ?_
        exact kk _ _ _ ⟨L', D', T, S, C, V', M', f', hP, hD, hS, lv_sub hl [2, 3, 4, 5, 6] rfl, hR'⟩
      · exact absurd (lg_self _) c_464
  · exact absurd rfl c_447
set_option maxHeartbeats 4000000 in
set_option maxRecDepth 100000 in
theorem law_doorsteps {p9 : Program} {l : Launch} {e9 : Env} {s9 : State} {m9 : MethodId} {b9 : List Frame} {t9 : Method} {c9 : Code} {A9 : Nat → Prop} {G : va_G} {cyI cyO cyJ : ClassId} {b Ln : Nat} {xs : Nat → Int32} {Q : State → Prop} {h : Nat} {Ad At As Ac Am : Nat → Nat} {ao i cells slots : Nat} {H : Heap} {locs : List Loc} {ls : Array Slot} (hC : LC p9 l s9 m9 c9 A9 G cyI cyO cyJ b Ln xs) (hi : i + 2 < Ln) (hLn : Ln ≤ 1536) (hcs : cells + 1 ≤ 609290 ∧ slots + 6 ≤ 7268235) (hJ : LJ G cyI cyO cyJ s9 A9 b h Ad At As Ac Am ao i H locs ls)
    (kk : ∀ (H : Heap) (locs : List Loc) (ls : Array Slot), LJ G cyI cyO cyJ s9 A9 b h Ad At As Ac Am ao i H locs ls → W p9 l e9 room_1 s9 m9 #[Value.ref b] b9 t9 c9 H locs (cells + 1) (slots + 6) Q (F0 m9 1444 ls [])) :
    W p9 l e9 room_1 s9 m9 #[Value.ref b] b9 t9 c9 H locs cells slots Q (F0 m9 472 ls []) := by
  obtain ⟨hx, hb, hml, hown, hts, hscr, hbl, hbA, hA, hK, hX, htr⟩ := hC
  obtain ⟨L, D, T, S, C, V, M, f, hP, hD, hS, hl, hR⟩ := hJ
  have hK2 := hK.sub [0, 1] (tys' := TY cyI cyO) rfl
  have hcs0 : cells ≤ 609290 ∧ slots ≤ 7268235 := ⟨by omega, by omega⟩
  have hP : va_P G vwCl (cat [[(h, .inr (5, [.ref (Ad 0), .ref (At 0), .ref (As 0), .ref (Ac 0), .ref (L 6 0)]))], dyW cyI Ad D, dyW cyI At T, shW cyI As S, ctW cyI Ac C, hiW cyI cyO L V, mdW cyI Am M, [(ao, .inl (cyJ, 1, .inr (.inl (f))))]]) H := hP
  have hD : va_D A9 (cat [[(h, .inr (5, [.ref (Ad 0), .ref (At 0), .ref (As 0), .ref (Ac 0), .ref (L 6 0)]))], dyW cyI Ad D, dyW cyI At T, shW cyI As S, ctW cyI Ac C, hiW cyI cyO L V, mdW cyI Am M, [(ao, .inl (cyJ, 1, .inr (.inl (f))))]]) := hD
  refine lv_aload_n hx hb dL_law_472 rfl (lv_at hl 3 rfl) ?_
  obtain ⟨r, M', hM, hm, hR'⟩ := q_doorsteps l G cyI cyO h Ad At As Ac Am L D T S C V M hR
  refine gVi (gs := [[(h, .inr (5, [.ref (Ad 0), .ref (At 0), .ref (As 0), .ref (Ac 0), .ref (L 6 0)]))], dyW cyI Ad D, dyW cyI At T, shW cyI As S, ctW cyI Ac C, hiW cyI cyO L V, mdW cyI Am M, [(ao, .inl (cyJ, 1, .inr (.inl (f))))]]) (As := []) (rest := []) ⟨hx, hb, hml, hown, hts⟩ hM (cwV 0 hts gL_law_X5_doorsteps rfl rfl rfl (by decide +kernel) ⟨Nat.le_of_ble_eq_true rfl, Nat.le_of_ble_eq_true rfl⟩) hK2 hP hD hS hA [0, 1] rfl rfl rfl 0 5 rfl rfl rfl hl.1 rfl (Nat.le_of_ble_eq_true rfl) dL_law_473 hcs0 (fun H locs hP hD hS => ?_)
  have hP : va_P G vwCl (cat [[(h, .inr (5, [.ref (Ad 0), .ref (At 0), .ref (As 0), .ref (Ac 0), .ref (L 6 0)]))], dyW cyI Ad D, dyW cyI At T, shW cyI As S, ctW cyI Ac C, hiW cyI cyO L V, mdW cyI Am M, [(ao, .inl (cyJ, 1, .inr (.inl (f))))]]) H := hP
  have hD : va_D A9 (cat [[(h, .inr (5, [.ref (Ad 0), .ref (At 0), .ref (As 0), .ref (Ac 0), .ref (L 6 0)]))], dyW cyI Ad D, dyW cyI At T, shW cyI As S, ctW cyI Ac C, hiW cyI cyO L V, mdW cyI Am M, [(ao, .inl (cyJ, 1, .inr (.inl (f))))]]) := hD
  refine lv_aload_n hx hb dL_law_476 rfl (lv_at hl 2 rfl) ?_
  refine gVi (gs := [[(h, .inr (5, [.ref (Ad 0), .ref (At 0), .ref (As 0), .ref (Ac 0), .ref (L 6 0)]))], dyW cyI Ad D, dyW cyI At T, shW cyI As S, ctW cyI Ac C, hiW cyI cyO L V, mdW cyI Am M, [(ao, .inl (cyJ, 1, .inr (.inl (f))))]]) (As := []) (rest := [.int (r)]) ⟨hx, hb, hml, hown, hts⟩ hm (cwV 0 hts gL_law_X6_doorsteps rfl rfl rfl (by decide +kernel) ⟨Nat.le_of_ble_eq_true rfl, Nat.le_of_ble_eq_true rfl⟩) hK2 hP hD hS hA [6] rfl rfl rfl 0 6 rfl rfl rfl hl.1 rfl (Nat.le_of_ble_eq_true rfl) dL_law_477 hcs0 (fun H locs hP hD hS => ?_)
  have hP : va_P G vwCl (cat [[(h, .inr (5, [.ref (Ad 0), .ref (At 0), .ref (As 0), .ref (Ac 0), .ref (L 6 0)]))], dyW cyI Ad D, dyW cyI At T, shW cyI As S, ctW cyI Ac C, hiW cyI cyO L V, mdW cyI Am M', [(ao, .inl (cyJ, 1, .inr (.inl (f))))]]) H := hP
  have hD : va_D A9 (cat [[(h, .inr (5, [.ref (Ad 0), .ref (At 0), .ref (As 0), .ref (Ac 0), .ref (L 6 0)]))], dyW cyI Ad D, dyW cyI At T, shW cyI As S, ctW cyI Ac C, hiW cyI cyO L V, mdW cyI Am M', [(ao, .inl (cyJ, 1, .inr (.inl (f))))]]) := hD
  refine lv_icmp_eq (tgt := 1444) hx hb dL_law_480 (by decide) (fun c_480 => ?_) (fun c_480 => ?_)
  · refine W.widen (k := cells + 1) (n := slots + 6) (Nat.le_add_right _ _) (Nat.le_add_right _ _) ?_
    exact kk _ _ _ ⟨L, D, T, S, C, V, M', f, hP, hD, hS, lv_sub hl [0, 1, 2, 3, 4] rfl, hR'⟩
  · exact absurd rfl c_480
set_option maxHeartbeats 4000000 in
set_option maxRecDepth 100000 in
theorem law_pints {p9 : Program} {l : Launch} {e9 : Env} {s9 : State} {m9 : MethodId} {b9 : List Frame} {t9 : Method} {c9 : Code} {A9 : Nat → Prop} {G : va_G} {cyI cyO cyJ : ClassId} {b Ln : Nat} {xs : Nat → Int32} {Q : State → Prop} {h : Nat} {Ad At As Ac Am : Nat → Nat} {ao i cells slots : Nat} {H : Heap} {locs : List Loc} {ls : Array Slot} (hC : LC p9 l s9 m9 c9 A9 G cyI cyO cyJ b Ln xs) (hi : i + 2 < Ln) (hLn : Ln ≤ 1536) (hcs : cells + 1 ≤ 609290 ∧ slots + 6 ≤ 7268235) (hJ : LJ G cyI cyO cyJ s9 A9 b h Ad At As Ac Am ao i H locs ls)
    (kk : ∀ (H : Heap) (locs : List Loc) (ls : Array Slot), LJ G cyI cyO cyJ s9 A9 b h Ad At As Ac Am ao i H locs ls → W p9 l e9 room_1 s9 m9 #[Value.ref b] b9 t9 c9 H locs (cells + 1) (slots + 6) Q (F0 m9 1444 ls [])) :
    W p9 l e9 room_1 s9 m9 #[Value.ref b] b9 t9 c9 H locs cells slots Q (F0 m9 485 ls []) := by
  obtain ⟨hx, hb, hml, hown, hts, hscr, hbl, hbA, hA, hK, hX, htr⟩ := hC
  obtain ⟨L, D, T, S, C, V, M, f, hP, hD, hS, hl, hR⟩ := hJ
  have hK2 := hK.sub [0, 1] (tys' := TY cyI cyO) rfl
  have hcs0 : cells ≤ 609290 ∧ slots ≤ 7268235 := ⟨by omega, by omega⟩
  have hP : va_P G vwCl (cat [[(h, .inr (5, [.ref (Ad 0), .ref (At 0), .ref (As 0), .ref (Ac 0), .ref (L 6 0)]))], dyW cyI Ad D, dyW cyI At T, shW cyI As S, ctW cyI Ac C, hiW cyI cyO L V, mdW cyI Am M, [(ao, .inl (cyJ, 1, .inr (.inl (f))))]]) H := hP
  have hD : va_D A9 (cat [[(h, .inr (5, [.ref (Ad 0), .ref (At 0), .ref (As 0), .ref (Ac 0), .ref (L 6 0)]))], dyW cyI Ad D, dyW cyI At T, shW cyI As S, ctW cyI Ac C, hiW cyI cyO L V, mdW cyI Am M, [(ao, .inl (cyJ, 1, .inr (.inl (f))))]]) := hD
  refine lv_aload_n hx hb dL_law_485 rfl (lv_at hl 3 rfl) ?_
  refine lv_aload_n hx hb dL_law_486 rfl (lv_at hl 4 rfl) ?_
  refine lv_iload hx hb dL_law_487 (lv_at hl 0 rfl) ?_
  refine lv_iconst (v := (1 : Int32)) hx hb dL_law_489 (by decide) ?_
  refine lv_iadd hx hb dL_law_490 ?_
  refine top_i (x' := nI (i + 1)) (nI_add (i) (1)) ?_
  refine va_sld hx hb hscr hbl hbA hS (vp_in_nI (n := i + 1) (by omega) (by omega)) dL_law_491 ?_
  refine top_i (x' := xs (i + 1)) (by rw [nI_clamp (by omega)]) ?_
  refine lv_aload_n hx hb dL_law_492 rfl (lv_at hl 1 rfl) ?_
  obtain ⟨k, D', f', M', a', hM, hm, ⟨hth, hans⟩, hR'⟩ := s_pints l G cyI cyO cyJ h Ad At As Ac Am ao L D T S C V M f (xs (i + 1)) htr hR
  refine gHi (gs := [[(h, .inr (5, [.ref (Ad 0), .ref (At 0), .ref (As 0), .ref (Ac 0), .ref (L 6 0)]))], dyW cyI Ad D, dyW cyI At T, shW cyI As S, ctW cyI Ac C, hiW cyI cyO L V, mdW cyI Am M, [(ao, .inl (cyJ, 1, .inr (.inl (f))))]]) (As := [.ref (h), .int (xs (i + 1)), .ref (ao)]) (rest := []) ⟨hx, hb, hml, hown, hts⟩ hM (vx_cwSW 3 hts gL_law_L_pints rfl rfl rfl (by decide +kernel) ⟨Nat.le_of_ble_eq_true rfl, Nat.le_of_ble_eq_true rfl⟩) hK hX hP hD hS hA [0, 1, 7] rfl rfl rfl rfl hl.1 rfl (Nat.le_of_ble_eq_true rfl) dL_law_493 hcs (fun H locs hP hD hS => ?_)
  have hP : va_P G vwCl (cat [[(h, .inr (5, [.ref (Ad 0), .ref (At 0), .ref (As 0), .ref (Ac 0), .ref (L 6 0)]))], dyW cyI Ad D', dyW cyI At T, shW cyI As S, ctW cyI Ac C, hiW cyI cyO L V, mdW cyI Am M, [(ao, .inl (cyJ, 1, .inr (.inl (f'))))]]) H := hP
  have hD : va_D A9 (cat [[(h, .inr (5, [.ref (Ad 0), .ref (At 0), .ref (As 0), .ref (Ac 0), .ref (L 6 0)]))], dyW cyI Ad D', dyW cyI At T, shW cyI As S, ctW cyI Ac C, hiW cyI cyO L V, mdW cyI Am M, [(ao, .inl (cyJ, 1, .inr (.inl (f'))))]]) := hD
  refine lv_istore (lv' := [(5, .int (k)), (4, .int (nI (i))), (3, .ref (ao)), (2, .ref (Am 0)), (1, .ref (h)), (0, .ref (b))]) hx hb dL_law_496 hl (by decide) rfl (fun ls hl => ?_)
  refine lv_aload_n hx hb dL_law_498 rfl (lv_at hl 3 rfl) ?_
  refine lv_aload_n hx hb dL_law_499 rfl (lv_at hl 5 rfl) ?_
  refine lv_iload hx hb dL_law_500 (lv_at hl 1 rfl) ?_
  refine lv_iconst (v := (1 : Int32)) hx hb dL_law_502 (by decide) ?_
  refine lv_iadd hx hb dL_law_503 ?_
  refine top_i (x' := nI (i + 1)) (nI_add (i) (1)) ?_
  refine va_sld hx hb hscr hbl hbA hS (vp_in_nI (n := i + 1) (by omega) (by omega)) dL_law_504 ?_
  refine top_i (x' := xs (i + 1)) (by rw [nI_clamp (by omega)]) ?_
  refine gVi (gs := [[(h, .inr (5, [.ref (Ad 0), .ref (At 0), .ref (As 0), .ref (Ac 0), .ref (L 6 0)]))], dyW cyI Ad D', dyW cyI At T, shW cyI As S, ctW cyI Ac C, hiW cyI cyO L V, mdW cyI Am M, [(ao, .inl (cyJ, 1, .inr (.inl (f'))))]]) (As := [.int (xs (i + 1))]) (rest := []) ⟨hx, hb, hml, hown, hts⟩ hm (cwV 1 hts gL_law_X6_pints rfl rfl rfl (by decide +kernel) ⟨Nat.le_of_ble_eq_true rfl, Nat.le_of_ble_eq_true rfl⟩) hK2 hP hD hS hA [6] rfl rfl rfl 0 6 rfl rfl rfl hl.1 rfl (Nat.le_of_ble_eq_true rfl) dL_law_505 hcs (fun H locs hP hD hS => ?_)
  have hP : va_P G vwCl (cat [[(h, .inr (5, [.ref (Ad 0), .ref (At 0), .ref (As 0), .ref (Ac 0), .ref (L 6 0)]))], dyW cyI Ad D', dyW cyI At T, shW cyI As S, ctW cyI Ac C, hiW cyI cyO L V, mdW cyI Am M', [(ao, .inl (cyJ, 1, .inr (.inl (f'))))]]) H := hP
  have hD : va_D A9 (cat [[(h, .inr (5, [.ref (Ad 0), .ref (At 0), .ref (As 0), .ref (Ac 0), .ref (L 6 0)]))], dyW cyI Ad D', dyW cyI At T, shW cyI As S, ctW cyI Ac C, hiW cyI cyO L V, mdW cyI Am M', [(ao, .inl (cyJ, 1, .inr (.inl (f'))))]]) := hD
  refine lv_istore (lv' := [(6, .int (a')), (5, .int (k)), (4, .int (nI (i))), (3, .ref (ao)), (2, .ref (Am 0)), (1, .ref (h)), (0, .ref (b))]) hx hb dL_law_508 hl (by decide) rfl (fun ls hl => ?_)
  refine lv_aload_n hx hb dL_law_510 rfl (lv_at hl 4 rfl) ?_
  refine gVi (gs := [[(h, .inr (5, [.ref (Ad 0), .ref (At 0), .ref (As 0), .ref (Ac 0), .ref (L 6 0)]))], dyW cyI Ad D', dyW cyI At T, shW cyI As S, ctW cyI Ac C, hiW cyI cyO L V, mdW cyI Am M', [(ao, .inl (cyJ, 1, .inr (.inl (f'))))]]) (As := []) (rest := []) ⟨hx, hb, hml, hown, hts⟩ (c_X6_thrown l G cyI cyO Am M') (cwV 0 hts gL_law_X6_thrown rfl rfl rfl (by decide +kernel) ⟨Nat.le_of_ble_eq_true rfl, Nat.le_of_ble_eq_true rfl⟩) hK2 hP hD hS hA [6] rfl rfl rfl 0 6 rfl rfl rfl hl.1 rfl (Nat.le_of_ble_eq_true rfl) dL_law_511 hcs (fun H locs hP hD hS => ?_)
  have hP : va_P G vwCl (cat [[(h, .inr (5, [.ref (Ad 0), .ref (At 0), .ref (As 0), .ref (Ac 0), .ref (L 6 0)]))], dyW cyI Ad D', dyW cyI At T, shW cyI As S, ctW cyI Ac C, hiW cyI cyO L V, mdW cyI Am M', [(ao, .inl (cyJ, 1, .inr (.inl (f'))))]]) H := hP
  have hD : va_D A9 (cat [[(h, .inr (5, [.ref (Ad 0), .ref (At 0), .ref (As 0), .ref (Ac 0), .ref (L 6 0)]))], dyW cyI Ad D', dyW cyI At T, shW cyI As S, ctW cyI Ac C, hiW cyI cyO L V, mdW cyI Am M', [(ao, .inl (cyJ, 1, .inr (.inl (f'))))]]) := hD
  refine top_i (x' := k) hth ?_
  refine lv_iload hx hb dL_law_514 (lv_at hl 1 rfl) ?_
  refine lv_icmp_eq (tgt := 521) hx hb dL_law_516 (by decide) (fun c_516 => ?_) (fun c_516 => ?_)
  · refine lv_iload hx hb dL_law_521 (lv_at hl 1 rfl) ?_
    refine lv_if_ne (tgt := 538) hx hb dL_law_523 (by decide) (fun c_523 => ?_) (fun c_523 => ?_)
    · refine lv_goto (tgt := 1444) hx hb dL_law_538 (by decide) ?_
      exact kk _ _ _ ⟨L, D', T, S, C, V, M', f', hP, hD, hS, lv_sub hl [2, 3, 4, 5, 6] rfl, hR'⟩
    · refine lv_aload_n hx hb dL_law_526 rfl (lv_at hl 3 rfl) ?_
      refine lv_iconst (v := (0 : Int32)) hx hb dL_law_527 (by decide) ?_
      refine va_lald (f := f') hx hb hK hP 115 2 rfl rfl in01 dL_law_528 ?_
      refine top_l (x' := f' 0) rfl ?_
      refine top_l (x' := a'.toInt64) (hans c_523) ?_
      refine lv_iload hx hb dL_law_529 (lv_at hl 0 rfl) ?_
      refine lv_i2l (v := a'.toInt64) hx hb dL_law_531 rfl ?_
      refine W.lcmp hx hb dL_law_532 ?_
      refine lv_if_eq (tgt := 538) hx hb dL_law_533 (by decide) (fun c_533 => ?_) (fun c_533 => ?_)
      · refine lv_goto (tgt := 1444) hx hb dL_law_538 (by decide) ?_
        exact kk _ _ _ ⟨L, D', T, S, C, V, M', f', hP, hD, hS, lv_sub hl [2, 3, 4, 5, 6] rfl, hR'⟩
      · exact absurd (lg_self _) c_533
  · exact absurd rfl c_516
set_option maxHeartbeats 4000000 in
set_option maxRecDepth 100000 in
theorem law_owner {p9 : Program} {l : Launch} {e9 : Env} {s9 : State} {m9 : MethodId} {b9 : List Frame} {t9 : Method} {c9 : Code} {A9 : Nat → Prop} {G : va_G} {cyI cyO cyJ : ClassId} {b Ln : Nat} {xs : Nat → Int32} {Q : State → Prop} {h : Nat} {Ad At As Ac Am : Nat → Nat} {ao i cells slots : Nat} {H : Heap} {locs : List Loc} {ls : Array Slot} (hC : LC p9 l s9 m9 c9 A9 G cyI cyO cyJ b Ln xs) (hi : i + 2 < Ln) (hLn : Ln ≤ 1536) (hcs : cells + 1 ≤ 609290 ∧ slots + 6 ≤ 7268235) (hJ : LJ G cyI cyO cyJ s9 A9 b h Ad At As Ac Am ao i H locs ls)
    (kk : ∀ (H : Heap) (locs : List Loc) (ls : Array Slot), LJ G cyI cyO cyJ s9 A9 b h Ad At As Ac Am ao i H locs ls → W p9 l e9 room_1 s9 m9 #[Value.ref b] b9 t9 c9 H locs (cells + 1) (slots + 6) Q (F0 m9 1444 ls [])) :
    W p9 l e9 room_1 s9 m9 #[Value.ref b] b9 t9 c9 H locs cells slots Q (F0 m9 541 ls []) := by
  obtain ⟨hx, hb, hml, hown, hts, hscr, hbl, hbA, hA, hK, hX, htr⟩ := hC
  obtain ⟨L, D, T, S, C, V, M, f, hP, hD, hS, hl, hR⟩ := hJ
  have hK2 := hK.sub [0, 1] (tys' := TY cyI cyO) rfl
  have hcs0 : cells ≤ 609290 ∧ slots ≤ 7268235 := ⟨by omega, by omega⟩
  have hP : va_P G vwCl (cat [[(h, .inr (5, [.ref (Ad 0), .ref (At 0), .ref (As 0), .ref (Ac 0), .ref (L 6 0)]))], dyW cyI Ad D, dyW cyI At T, shW cyI As S, ctW cyI Ac C, hiW cyI cyO L V, mdW cyI Am M, [(ao, .inl (cyJ, 1, .inr (.inl (f))))]]) H := hP
  have hD : va_D A9 (cat [[(h, .inr (5, [.ref (Ad 0), .ref (At 0), .ref (As 0), .ref (Ac 0), .ref (L 6 0)]))], dyW cyI Ad D, dyW cyI At T, shW cyI As S, ctW cyI Ac C, hiW cyI cyO L V, mdW cyI Am M, [(ao, .inl (cyJ, 1, .inr (.inl (f))))]]) := hD
  refine lv_aload_n hx hb dL_law_541 rfl (lv_at hl 3 rfl) ?_
  refine lv_aload_n hx hb dL_law_542 rfl (lv_at hl 4 rfl) ?_
  refine lv_iload hx hb dL_law_543 (lv_at hl 0 rfl) ?_
  refine lv_iconst (v := (1 : Int32)) hx hb dL_law_545 (by decide) ?_
  refine lv_iadd hx hb dL_law_546 ?_
  refine top_i (x' := nI (i + 1)) (nI_add (i) (1)) ?_
  refine va_sld hx hb hscr hbl hbA hS (vp_in_nI (n := i + 1) (by omega) (by omega)) dL_law_547 ?_
  refine top_i (x' := xs (i + 1)) (by rw [nI_clamp (by omega)]) ?_
  refine lv_aload_n hx hb dL_law_548 rfl (lv_at hl 1 rfl) ?_
  obtain ⟨k, D', f', M', a', hM, hm, ⟨hth, hans⟩, hR'⟩ := s_owner l G cyI cyO cyJ h Ad At As Ac Am ao L D T S C V M f (xs (i + 1)) htr hR
  refine gHi (gs := [[(h, .inr (5, [.ref (Ad 0), .ref (At 0), .ref (As 0), .ref (Ac 0), .ref (L 6 0)]))], dyW cyI Ad D, dyW cyI At T, shW cyI As S, ctW cyI Ac C, hiW cyI cyO L V, mdW cyI Am M, [(ao, .inl (cyJ, 1, .inr (.inl (f))))]]) (As := [.ref (h), .int (xs (i + 1)), .ref (ao)]) (rest := []) ⟨hx, hb, hml, hown, hts⟩ hM (vx_cwSW 3 hts gL_law_L_owner rfl rfl rfl (by decide +kernel) ⟨Nat.le_of_ble_eq_true rfl, Nat.le_of_ble_eq_true rfl⟩) hK hX hP hD hS hA [0, 1, 7] rfl rfl rfl rfl hl.1 rfl (Nat.le_of_ble_eq_true rfl) dL_law_549 hcs (fun H locs hP hD hS => ?_)
  have hP : va_P G vwCl (cat [[(h, .inr (5, [.ref (Ad 0), .ref (At 0), .ref (As 0), .ref (Ac 0), .ref (L 6 0)]))], dyW cyI Ad D', dyW cyI At T, shW cyI As S, ctW cyI Ac C, hiW cyI cyO L V, mdW cyI Am M, [(ao, .inl (cyJ, 1, .inr (.inl (f'))))]]) H := hP
  have hD : va_D A9 (cat [[(h, .inr (5, [.ref (Ad 0), .ref (At 0), .ref (As 0), .ref (Ac 0), .ref (L 6 0)]))], dyW cyI Ad D', dyW cyI At T, shW cyI As S, ctW cyI Ac C, hiW cyI cyO L V, mdW cyI Am M, [(ao, .inl (cyJ, 1, .inr (.inl (f'))))]]) := hD
  refine lv_istore (lv' := [(5, .int (k)), (4, .int (nI (i))), (3, .ref (ao)), (2, .ref (Am 0)), (1, .ref (h)), (0, .ref (b))]) hx hb dL_law_552 hl (by decide) rfl (fun ls hl => ?_)
  refine lv_aload_n hx hb dL_law_554 rfl (lv_at hl 3 rfl) ?_
  refine lv_aload_n hx hb dL_law_555 rfl (lv_at hl 5 rfl) ?_
  refine lv_iload hx hb dL_law_556 (lv_at hl 1 rfl) ?_
  refine lv_iconst (v := (1 : Int32)) hx hb dL_law_558 (by decide) ?_
  refine lv_iadd hx hb dL_law_559 ?_
  refine top_i (x' := nI (i + 1)) (nI_add (i) (1)) ?_
  refine va_sld hx hb hscr hbl hbA hS (vp_in_nI (n := i + 1) (by omega) (by omega)) dL_law_560 ?_
  refine top_i (x' := xs (i + 1)) (by rw [nI_clamp (by omega)]) ?_
  refine gVi (gs := [[(h, .inr (5, [.ref (Ad 0), .ref (At 0), .ref (As 0), .ref (Ac 0), .ref (L 6 0)]))], dyW cyI Ad D', dyW cyI At T, shW cyI As S, ctW cyI Ac C, hiW cyI cyO L V, mdW cyI Am M, [(ao, .inl (cyJ, 1, .inr (.inl (f'))))]]) (As := [.int (xs (i + 1))]) (rest := []) ⟨hx, hb, hml, hown, hts⟩ hm (cwV 1 hts gL_law_X6_owner rfl rfl rfl (by decide +kernel) ⟨Nat.le_of_ble_eq_true rfl, Nat.le_of_ble_eq_true rfl⟩) hK2 hP hD hS hA [6] rfl rfl rfl 0 6 rfl rfl rfl hl.1 rfl (Nat.le_of_ble_eq_true rfl) dL_law_561 hcs (fun H locs hP hD hS => ?_)
  have hP : va_P G vwCl (cat [[(h, .inr (5, [.ref (Ad 0), .ref (At 0), .ref (As 0), .ref (Ac 0), .ref (L 6 0)]))], dyW cyI Ad D', dyW cyI At T, shW cyI As S, ctW cyI Ac C, hiW cyI cyO L V, mdW cyI Am M', [(ao, .inl (cyJ, 1, .inr (.inl (f'))))]]) H := hP
  have hD : va_D A9 (cat [[(h, .inr (5, [.ref (Ad 0), .ref (At 0), .ref (As 0), .ref (Ac 0), .ref (L 6 0)]))], dyW cyI Ad D', dyW cyI At T, shW cyI As S, ctW cyI Ac C, hiW cyI cyO L V, mdW cyI Am M', [(ao, .inl (cyJ, 1, .inr (.inl (f'))))]]) := hD
  refine lv_istore (lv' := [(6, .int (a')), (5, .int (k)), (4, .int (nI (i))), (3, .ref (ao)), (2, .ref (Am 0)), (1, .ref (h)), (0, .ref (b))]) hx hb dL_law_564 hl (by decide) rfl (fun ls hl => ?_)
  refine lv_aload_n hx hb dL_law_566 rfl (lv_at hl 4 rfl) ?_
  refine gVi (gs := [[(h, .inr (5, [.ref (Ad 0), .ref (At 0), .ref (As 0), .ref (Ac 0), .ref (L 6 0)]))], dyW cyI Ad D', dyW cyI At T, shW cyI As S, ctW cyI Ac C, hiW cyI cyO L V, mdW cyI Am M', [(ao, .inl (cyJ, 1, .inr (.inl (f'))))]]) (As := []) (rest := []) ⟨hx, hb, hml, hown, hts⟩ (c_X6_thrown l G cyI cyO Am M') (cwV 0 hts gL_law_X6_thrown rfl rfl rfl (by decide +kernel) ⟨Nat.le_of_ble_eq_true rfl, Nat.le_of_ble_eq_true rfl⟩) hK2 hP hD hS hA [6] rfl rfl rfl 0 6 rfl rfl rfl hl.1 rfl (Nat.le_of_ble_eq_true rfl) dL_law_567 hcs (fun H locs hP hD hS => ?_)
  have hP : va_P G vwCl (cat [[(h, .inr (5, [.ref (Ad 0), .ref (At 0), .ref (As 0), .ref (Ac 0), .ref (L 6 0)]))], dyW cyI Ad D', dyW cyI At T, shW cyI As S, ctW cyI Ac C, hiW cyI cyO L V, mdW cyI Am M', [(ao, .inl (cyJ, 1, .inr (.inl (f'))))]]) H := hP
  have hD : va_D A9 (cat [[(h, .inr (5, [.ref (Ad 0), .ref (At 0), .ref (As 0), .ref (Ac 0), .ref (L 6 0)]))], dyW cyI Ad D', dyW cyI At T, shW cyI As S, ctW cyI Ac C, hiW cyI cyO L V, mdW cyI Am M', [(ao, .inl (cyJ, 1, .inr (.inl (f'))))]]) := hD
  refine top_i (x' := k) hth ?_
  refine lv_iload hx hb dL_law_570 (lv_at hl 1 rfl) ?_
  refine lv_icmp_eq (tgt := 577) hx hb dL_law_572 (by decide) (fun c_572 => ?_) (fun c_572 => ?_)
  · refine lv_iload hx hb dL_law_577 (lv_at hl 1 rfl) ?_
    refine lv_if_ne (tgt := 594) hx hb dL_law_579 (by decide) (fun c_579 => ?_) (fun c_579 => ?_)
    · refine lv_goto (tgt := 1444) hx hb dL_law_594 (by decide) ?_
      exact kk _ _ _ ⟨L, D', T, S, C, V, M', f', hP, hD, hS, lv_sub hl [2, 3, 4, 5, 6] rfl, hR'⟩
    · refine lv_aload_n hx hb dL_law_582 rfl (lv_at hl 3 rfl) ?_
      refine lv_iconst (v := (0 : Int32)) hx hb dL_law_583 (by decide) ?_
      refine va_lald (f := f') hx hb hK hP 115 2 rfl rfl in01 dL_law_584 ?_
      refine top_l (x' := f' 0) rfl ?_
      refine top_l (x' := a'.toInt64) (hans c_579) ?_
      refine lv_iload hx hb dL_law_585 (lv_at hl 0 rfl) ?_
      refine lv_i2l (v := a'.toInt64) hx hb dL_law_587 rfl ?_
      refine W.lcmp hx hb dL_law_588 ?_
      refine lv_if_eq (tgt := 594) hx hb dL_law_589 (by decide) (fun c_589 => ?_) (fun c_589 => ?_)
      · refine lv_goto (tgt := 1444) hx hb dL_law_594 (by decide) ?_
        exact kk _ _ _ ⟨L, D', T, S, C, V, M', f', hP, hD, hS, lv_sub hl [2, 3, 4, 5, 6] rfl, hR'⟩
      · exact absurd (lg_self _) c_589
  · exact absurd rfl c_572
set_option maxHeartbeats 4000000 in
set_option maxRecDepth 100000 in
theorem law_isAtWork {p9 : Program} {l : Launch} {e9 : Env} {s9 : State} {m9 : MethodId} {b9 : List Frame} {t9 : Method} {c9 : Code} {A9 : Nat → Prop} {G : va_G} {cyI cyO cyJ : ClassId} {b Ln : Nat} {xs : Nat → Int32} {Q : State → Prop} {h : Nat} {Ad At As Ac Am : Nat → Nat} {ao i cells slots : Nat} {H : Heap} {locs : List Loc} {ls : Array Slot} (hC : LC p9 l s9 m9 c9 A9 G cyI cyO cyJ b Ln xs) (hi : i + 2 < Ln) (hLn : Ln ≤ 1536) (hcs : cells + 1 ≤ 609290 ∧ slots + 6 ≤ 7268235) (hJ : LJ G cyI cyO cyJ s9 A9 b h Ad At As Ac Am ao i H locs ls)
    (kk : ∀ (H : Heap) (locs : List Loc) (ls : Array Slot), LJ G cyI cyO cyJ s9 A9 b h Ad At As Ac Am ao i H locs ls → W p9 l e9 room_1 s9 m9 #[Value.ref b] b9 t9 c9 H locs (cells + 1) (slots + 6) Q (F0 m9 1444 ls [])) :
    W p9 l e9 room_1 s9 m9 #[Value.ref b] b9 t9 c9 H locs cells slots Q (F0 m9 597 ls []) := by
  obtain ⟨hx, hb, hml, hown, hts, hscr, hbl, hbA, hA, hK, hX, htr⟩ := hC
  obtain ⟨L, D, T, S, C, V, M, f, hP, hD, hS, hl, hR⟩ := hJ
  have hK2 := hK.sub [0, 1] (tys' := TY cyI cyO) rfl
  have hcs0 : cells ≤ 609290 ∧ slots ≤ 7268235 := ⟨by omega, by omega⟩
  have hP : va_P G vwCl (cat [[(h, .inr (5, [.ref (Ad 0), .ref (At 0), .ref (As 0), .ref (Ac 0), .ref (L 6 0)]))], dyW cyI Ad D, dyW cyI At T, shW cyI As S, ctW cyI Ac C, hiW cyI cyO L V, mdW cyI Am M, [(ao, .inl (cyJ, 1, .inr (.inl (f))))]]) H := hP
  have hD : va_D A9 (cat [[(h, .inr (5, [.ref (Ad 0), .ref (At 0), .ref (As 0), .ref (Ac 0), .ref (L 6 0)]))], dyW cyI Ad D, dyW cyI At T, shW cyI As S, ctW cyI Ac C, hiW cyI cyO L V, mdW cyI Am M, [(ao, .inl (cyJ, 1, .inr (.inl (f))))]]) := hD
  refine lv_aload_n hx hb dL_law_597 rfl (lv_at hl 3 rfl) ?_
  refine lv_aload_n hx hb dL_law_598 rfl (lv_at hl 4 rfl) ?_
  refine lv_iload hx hb dL_law_599 (lv_at hl 0 rfl) ?_
  refine lv_iconst (v := (1 : Int32)) hx hb dL_law_601 (by decide) ?_
  refine lv_iadd hx hb dL_law_602 ?_
  refine top_i (x' := nI (i + 1)) (nI_add (i) (1)) ?_
  refine va_sld hx hb hscr hbl hbA hS (vp_in_nI (n := i + 1) (by omega) (by omega)) dL_law_603 ?_
  refine top_i (x' := xs (i + 1)) (by rw [nI_clamp (by omega)]) ?_
  refine lv_aload_n hx hb dL_law_604 rfl (lv_at hl 1 rfl) ?_
  obtain ⟨k, D', f', M', a', hM, hm, ⟨hth, hans⟩, hR'⟩ := s_isAtWork l G cyI cyO cyJ h Ad At As Ac Am ao L D T S C V M f (xs (i + 1)) htr hR
  refine gHi (gs := [[(h, .inr (5, [.ref (Ad 0), .ref (At 0), .ref (As 0), .ref (Ac 0), .ref (L 6 0)]))], dyW cyI Ad D, dyW cyI At T, shW cyI As S, ctW cyI Ac C, hiW cyI cyO L V, mdW cyI Am M, [(ao, .inl (cyJ, 1, .inr (.inl (f))))]]) (As := [.ref (h), .int (xs (i + 1)), .ref (ao)]) (rest := []) ⟨hx, hb, hml, hown, hts⟩ hM (vx_cwSW 3 hts gL_law_L_isAtWork rfl rfl rfl (by decide +kernel) ⟨Nat.le_of_ble_eq_true rfl, Nat.le_of_ble_eq_true rfl⟩) hK hX hP hD hS hA [0, 1, 7] rfl rfl rfl rfl hl.1 rfl (Nat.le_of_ble_eq_true rfl) dL_law_605 hcs (fun H locs hP hD hS => ?_)
  have hP : va_P G vwCl (cat [[(h, .inr (5, [.ref (Ad 0), .ref (At 0), .ref (As 0), .ref (Ac 0), .ref (L 6 0)]))], dyW cyI Ad D', dyW cyI At T, shW cyI As S, ctW cyI Ac C, hiW cyI cyO L V, mdW cyI Am M, [(ao, .inl (cyJ, 1, .inr (.inl (f'))))]]) H := hP
  have hD : va_D A9 (cat [[(h, .inr (5, [.ref (Ad 0), .ref (At 0), .ref (As 0), .ref (Ac 0), .ref (L 6 0)]))], dyW cyI Ad D', dyW cyI At T, shW cyI As S, ctW cyI Ac C, hiW cyI cyO L V, mdW cyI Am M, [(ao, .inl (cyJ, 1, .inr (.inl (f'))))]]) := hD
  refine lv_istore (lv' := [(5, .int (k)), (4, .int (nI (i))), (3, .ref (ao)), (2, .ref (Am 0)), (1, .ref (h)), (0, .ref (b))]) hx hb dL_law_608 hl (by decide) rfl (fun ls hl => ?_)
  refine lv_aload_n hx hb dL_law_610 rfl (lv_at hl 3 rfl) ?_
  refine lv_aload_n hx hb dL_law_611 rfl (lv_at hl 5 rfl) ?_
  refine lv_iload hx hb dL_law_612 (lv_at hl 1 rfl) ?_
  refine lv_iconst (v := (1 : Int32)) hx hb dL_law_614 (by decide) ?_
  refine lv_iadd hx hb dL_law_615 ?_
  refine top_i (x' := nI (i + 1)) (nI_add (i) (1)) ?_
  refine va_sld hx hb hscr hbl hbA hS (vp_in_nI (n := i + 1) (by omega) (by omega)) dL_law_616 ?_
  refine top_i (x' := xs (i + 1)) (by rw [nI_clamp (by omega)]) ?_
  refine gVi (gs := [[(h, .inr (5, [.ref (Ad 0), .ref (At 0), .ref (As 0), .ref (Ac 0), .ref (L 6 0)]))], dyW cyI Ad D', dyW cyI At T, shW cyI As S, ctW cyI Ac C, hiW cyI cyO L V, mdW cyI Am M, [(ao, .inl (cyJ, 1, .inr (.inl (f'))))]]) (As := [.int (xs (i + 1))]) (rest := []) ⟨hx, hb, hml, hown, hts⟩ hm (cwV 1 hts gL_law_X6_isAtWork rfl rfl rfl (by decide +kernel) ⟨Nat.le_of_ble_eq_true rfl, Nat.le_of_ble_eq_true rfl⟩) hK2 hP hD hS hA [6] rfl rfl rfl 0 6 rfl rfl rfl hl.1 rfl (Nat.le_of_ble_eq_true rfl) dL_law_617 hcs (fun H locs hP hD hS => ?_)
  have hP : va_P G vwCl (cat [[(h, .inr (5, [.ref (Ad 0), .ref (At 0), .ref (As 0), .ref (Ac 0), .ref (L 6 0)]))], dyW cyI Ad D', dyW cyI At T, shW cyI As S, ctW cyI Ac C, hiW cyI cyO L V, mdW cyI Am M', [(ao, .inl (cyJ, 1, .inr (.inl (f'))))]]) H := hP
  have hD : va_D A9 (cat [[(h, .inr (5, [.ref (Ad 0), .ref (At 0), .ref (As 0), .ref (Ac 0), .ref (L 6 0)]))], dyW cyI Ad D', dyW cyI At T, shW cyI As S, ctW cyI Ac C, hiW cyI cyO L V, mdW cyI Am M', [(ao, .inl (cyJ, 1, .inr (.inl (f'))))]]) := hD
  refine lv_istore (lv' := [(6, .int (a')), (5, .int (k)), (4, .int (nI (i))), (3, .ref (ao)), (2, .ref (Am 0)), (1, .ref (h)), (0, .ref (b))]) hx hb dL_law_620 hl (by decide) rfl (fun ls hl => ?_)
  refine lv_aload_n hx hb dL_law_622 rfl (lv_at hl 4 rfl) ?_
  refine gVi (gs := [[(h, .inr (5, [.ref (Ad 0), .ref (At 0), .ref (As 0), .ref (Ac 0), .ref (L 6 0)]))], dyW cyI Ad D', dyW cyI At T, shW cyI As S, ctW cyI Ac C, hiW cyI cyO L V, mdW cyI Am M', [(ao, .inl (cyJ, 1, .inr (.inl (f'))))]]) (As := []) (rest := []) ⟨hx, hb, hml, hown, hts⟩ (c_X6_thrown l G cyI cyO Am M') (cwV 0 hts gL_law_X6_thrown rfl rfl rfl (by decide +kernel) ⟨Nat.le_of_ble_eq_true rfl, Nat.le_of_ble_eq_true rfl⟩) hK2 hP hD hS hA [6] rfl rfl rfl 0 6 rfl rfl rfl hl.1 rfl (Nat.le_of_ble_eq_true rfl) dL_law_623 hcs (fun H locs hP hD hS => ?_)
  have hP : va_P G vwCl (cat [[(h, .inr (5, [.ref (Ad 0), .ref (At 0), .ref (As 0), .ref (Ac 0), .ref (L 6 0)]))], dyW cyI Ad D', dyW cyI At T, shW cyI As S, ctW cyI Ac C, hiW cyI cyO L V, mdW cyI Am M', [(ao, .inl (cyJ, 1, .inr (.inl (f'))))]]) H := hP
  have hD : va_D A9 (cat [[(h, .inr (5, [.ref (Ad 0), .ref (At 0), .ref (As 0), .ref (Ac 0), .ref (L 6 0)]))], dyW cyI Ad D', dyW cyI At T, shW cyI As S, ctW cyI Ac C, hiW cyI cyO L V, mdW cyI Am M', [(ao, .inl (cyJ, 1, .inr (.inl (f'))))]]) := hD
  refine top_i (x' := k) hth ?_
  refine lv_iload hx hb dL_law_626 (lv_at hl 1 rfl) ?_
  refine lv_icmp_eq (tgt := 633) hx hb dL_law_628 (by decide) (fun c_628 => ?_) (fun c_628 => ?_)
  · refine lv_iload hx hb dL_law_633 (lv_at hl 1 rfl) ?_
    refine lv_if_ne (tgt := 657) hx hb dL_law_635 (by decide) (fun c_635 => ?_) (fun c_635 => ?_)
    · refine lv_goto (tgt := 1444) hx hb dL_law_657 (by decide) ?_
      exact kk _ _ _ ⟨L, D', T, S, C, V, M', f', hP, hD, hS, lv_sub hl [2, 3, 4, 5, 6] rfl, hR'⟩
    · refine lv_aload_n hx hb dL_law_638 rfl (lv_at hl 3 rfl) ?_
      refine lv_iconst (v := (0 : Int32)) hx hb dL_law_639 (by decide) ?_
      refine va_lald (f := f') hx hb hK hP 115 2 rfl rfl in01 dL_law_640 ?_
      refine top_l (x' := f' 0) rfl ?_
      refine lv_iload hx hb dL_law_641 (lv_at hl 0 rfl) ?_
      refine lv_if_eq (tgt := 650) hx hb dL_law_643 (by decide) (fun c_643 => ?_) (fun c_643 => ?_)
      · have hfa := (hans c_635).1 c_643
        refine lv_lconst (v := (0 : Int64)) hx hb dL_law_650 (by decide) ?_
        refine W.lcmp hx hb dL_law_651 ?_
        refine lv_if_eq (tgt := 657) hx hb dL_law_652 (by decide) (fun c_652 => ?_) (fun c_652 => ?_)
        · refine lv_goto (tgt := 1444) hx hb dL_law_657 (by decide) ?_
          exact kk _ _ _ ⟨L, D', T, S, C, V, M', f', hP, hD, hS, lv_sub hl [2, 3, 4, 5, 6] rfl, hR'⟩
        · exact absurd (by rw [hfa]; exact lg_self _) c_652
      · have hfa := (hans c_635).2 c_643
        refine lv_lconst (v := (1 : Int64)) hx hb dL_law_646 (by decide) ?_
        refine lv_goto (tgt := 651) hx hb dL_law_647 (by decide) ?_
        refine W.lcmp hx hb dL_law_651 ?_
        refine lv_if_eq (tgt := 657) hx hb dL_law_652 (by decide) (fun c_652 => ?_) (fun c_652 => ?_)
        · refine lv_goto (tgt := 1444) hx hb dL_law_657 (by decide) ?_
          exact kk _ _ _ ⟨L, D', T, S, C, V, M', f', hP, hD, hS, lv_sub hl [2, 3, 4, 5, 6] rfl, hR'⟩
        · exact absurd (by rw [hfa]; exact lg_self _) c_652
  · exact absurd rfl c_628
set_option maxHeartbeats 4000000 in
set_option maxRecDepth 100000 in
theorem law_size {p9 : Program} {l : Launch} {e9 : Env} {s9 : State} {m9 : MethodId} {b9 : List Frame} {t9 : Method} {c9 : Code} {A9 : Nat → Prop} {G : va_G} {cyI cyO cyJ : ClassId} {b Ln : Nat} {xs : Nat → Int32} {Q : State → Prop} {h : Nat} {Ad At As Ac Am : Nat → Nat} {ao i cells slots : Nat} {H : Heap} {locs : List Loc} {ls : Array Slot} (hC : LC p9 l s9 m9 c9 A9 G cyI cyO cyJ b Ln xs) (hi : i + 2 < Ln) (hLn : Ln ≤ 1536) (hcs : cells + 1 ≤ 609290 ∧ slots + 6 ≤ 7268235) (hJ : LJ G cyI cyO cyJ s9 A9 b h Ad At As Ac Am ao i H locs ls)
    (kk : ∀ (H : Heap) (locs : List Loc) (ls : Array Slot), LJ G cyI cyO cyJ s9 A9 b h Ad At As Ac Am ao i H locs ls → W p9 l e9 room_1 s9 m9 #[Value.ref b] b9 t9 c9 H locs (cells + 1) (slots + 6) Q (F0 m9 1444 ls [])) :
    W p9 l e9 room_1 s9 m9 #[Value.ref b] b9 t9 c9 H locs cells slots Q (F0 m9 660 ls []) := by
  obtain ⟨hx, hb, hml, hown, hts, hscr, hbl, hbA, hA, hK, hX, htr⟩ := hC
  obtain ⟨L, D, T, S, C, V, M, f, hP, hD, hS, hl, hR⟩ := hJ
  have hK2 := hK.sub [0, 1] (tys' := TY cyI cyO) rfl
  have hcs0 : cells ≤ 609290 ∧ slots ≤ 7268235 := ⟨by omega, by omega⟩
  have hP : va_P G vwCl (cat [[(h, .inr (5, [.ref (Ad 0), .ref (At 0), .ref (As 0), .ref (Ac 0), .ref (L 6 0)]))], dyW cyI Ad D, dyW cyI At T, shW cyI As S, ctW cyI Ac C, hiW cyI cyO L V, mdW cyI Am M, [(ao, .inl (cyJ, 1, .inr (.inl (f))))]]) H := hP
  have hD : va_D A9 (cat [[(h, .inr (5, [.ref (Ad 0), .ref (At 0), .ref (As 0), .ref (Ac 0), .ref (L 6 0)]))], dyW cyI Ad D, dyW cyI At T, shW cyI As S, ctW cyI Ac C, hiW cyI cyO L V, mdW cyI Am M, [(ao, .inl (cyJ, 1, .inr (.inl (f))))]]) := hD
  refine lv_aload_n hx hb dL_law_660 rfl (lv_at hl 3 rfl) ?_
  refine lv_aload_n hx hb dL_law_661 rfl (lv_at hl 4 rfl) ?_
  refine lv_iload hx hb dL_law_662 (lv_at hl 0 rfl) ?_
  refine lv_iconst (v := (1 : Int32)) hx hb dL_law_664 (by decide) ?_
  refine lv_iadd hx hb dL_law_665 ?_
  refine top_i (x' := nI (i + 1)) (nI_add (i) (1)) ?_
  refine va_sld hx hb hscr hbl hbA hS (vp_in_nI (n := i + 1) (by omega) (by omega)) dL_law_666 ?_
  refine top_i (x' := xs (i + 1)) (by rw [nI_clamp (by omega)]) ?_
  refine lv_aload_n hx hb dL_law_667 rfl (lv_at hl 1 rfl) ?_
  obtain ⟨k, D', f', M', a', hM, hm, ⟨hth, hans⟩, hR'⟩ := s_size l G cyI cyO cyJ h Ad At As Ac Am ao L D T S C V M f (xs (i + 1)) htr hR
  refine gHi (gs := [[(h, .inr (5, [.ref (Ad 0), .ref (At 0), .ref (As 0), .ref (Ac 0), .ref (L 6 0)]))], dyW cyI Ad D, dyW cyI At T, shW cyI As S, ctW cyI Ac C, hiW cyI cyO L V, mdW cyI Am M, [(ao, .inl (cyJ, 1, .inr (.inl (f))))]]) (As := [.ref (h), .int (xs (i + 1)), .ref (ao)]) (rest := []) ⟨hx, hb, hml, hown, hts⟩ hM (vx_cwSW 3 hts gL_law_L_size rfl rfl rfl (by decide +kernel) ⟨Nat.le_of_ble_eq_true rfl, Nat.le_of_ble_eq_true rfl⟩) hK hX hP hD hS hA [0, 1, 7] rfl rfl rfl rfl hl.1 rfl (Nat.le_of_ble_eq_true rfl) dL_law_668 hcs (fun H locs hP hD hS => ?_)
  have hP : va_P G vwCl (cat [[(h, .inr (5, [.ref (Ad 0), .ref (At 0), .ref (As 0), .ref (Ac 0), .ref (L 6 0)]))], dyW cyI Ad D', dyW cyI At T, shW cyI As S, ctW cyI Ac C, hiW cyI cyO L V, mdW cyI Am M, [(ao, .inl (cyJ, 1, .inr (.inl (f'))))]]) H := hP
  have hD : va_D A9 (cat [[(h, .inr (5, [.ref (Ad 0), .ref (At 0), .ref (As 0), .ref (Ac 0), .ref (L 6 0)]))], dyW cyI Ad D', dyW cyI At T, shW cyI As S, ctW cyI Ac C, hiW cyI cyO L V, mdW cyI Am M, [(ao, .inl (cyJ, 1, .inr (.inl (f'))))]]) := hD
  refine lv_istore (lv' := [(5, .int (k)), (4, .int (nI (i))), (3, .ref (ao)), (2, .ref (Am 0)), (1, .ref (h)), (0, .ref (b))]) hx hb dL_law_671 hl (by decide) rfl (fun ls hl => ?_)
  refine lv_aload_n hx hb dL_law_673 rfl (lv_at hl 3 rfl) ?_
  refine lv_aload_n hx hb dL_law_674 rfl (lv_at hl 5 rfl) ?_
  refine lv_iload hx hb dL_law_675 (lv_at hl 1 rfl) ?_
  refine lv_iconst (v := (1 : Int32)) hx hb dL_law_677 (by decide) ?_
  refine lv_iadd hx hb dL_law_678 ?_
  refine top_i (x' := nI (i + 1)) (nI_add (i) (1)) ?_
  refine va_sld hx hb hscr hbl hbA hS (vp_in_nI (n := i + 1) (by omega) (by omega)) dL_law_679 ?_
  refine top_i (x' := xs (i + 1)) (by rw [nI_clamp (by omega)]) ?_
  refine gVi (gs := [[(h, .inr (5, [.ref (Ad 0), .ref (At 0), .ref (As 0), .ref (Ac 0), .ref (L 6 0)]))], dyW cyI Ad D', dyW cyI At T, shW cyI As S, ctW cyI Ac C, hiW cyI cyO L V, mdW cyI Am M, [(ao, .inl (cyJ, 1, .inr (.inl (f'))))]]) (As := [.int (xs (i + 1))]) (rest := []) ⟨hx, hb, hml, hown, hts⟩ hm (cwV 1 hts gL_law_X6_size rfl rfl rfl (by decide +kernel) ⟨Nat.le_of_ble_eq_true rfl, Nat.le_of_ble_eq_true rfl⟩) hK2 hP hD hS hA [6] rfl rfl rfl 0 6 rfl rfl rfl hl.1 rfl (Nat.le_of_ble_eq_true rfl) dL_law_680 hcs (fun H locs hP hD hS => ?_)
  have hP : va_P G vwCl (cat [[(h, .inr (5, [.ref (Ad 0), .ref (At 0), .ref (As 0), .ref (Ac 0), .ref (L 6 0)]))], dyW cyI Ad D', dyW cyI At T, shW cyI As S, ctW cyI Ac C, hiW cyI cyO L V, mdW cyI Am M', [(ao, .inl (cyJ, 1, .inr (.inl (f'))))]]) H := hP
  have hD : va_D A9 (cat [[(h, .inr (5, [.ref (Ad 0), .ref (At 0), .ref (As 0), .ref (Ac 0), .ref (L 6 0)]))], dyW cyI Ad D', dyW cyI At T, shW cyI As S, ctW cyI Ac C, hiW cyI cyO L V, mdW cyI Am M', [(ao, .inl (cyJ, 1, .inr (.inl (f'))))]]) := hD
  refine lv_istore (lv' := [(6, .int (a')), (5, .int (k)), (4, .int (nI (i))), (3, .ref (ao)), (2, .ref (Am 0)), (1, .ref (h)), (0, .ref (b))]) hx hb dL_law_683 hl (by decide) rfl (fun ls hl => ?_)
  refine lv_aload_n hx hb dL_law_685 rfl (lv_at hl 4 rfl) ?_
  refine gVi (gs := [[(h, .inr (5, [.ref (Ad 0), .ref (At 0), .ref (As 0), .ref (Ac 0), .ref (L 6 0)]))], dyW cyI Ad D', dyW cyI At T, shW cyI As S, ctW cyI Ac C, hiW cyI cyO L V, mdW cyI Am M', [(ao, .inl (cyJ, 1, .inr (.inl (f'))))]]) (As := []) (rest := []) ⟨hx, hb, hml, hown, hts⟩ (c_X6_thrown l G cyI cyO Am M') (cwV 0 hts gL_law_X6_thrown rfl rfl rfl (by decide +kernel) ⟨Nat.le_of_ble_eq_true rfl, Nat.le_of_ble_eq_true rfl⟩) hK2 hP hD hS hA [6] rfl rfl rfl 0 6 rfl rfl rfl hl.1 rfl (Nat.le_of_ble_eq_true rfl) dL_law_686 hcs (fun H locs hP hD hS => ?_)
  have hP : va_P G vwCl (cat [[(h, .inr (5, [.ref (Ad 0), .ref (At 0), .ref (As 0), .ref (Ac 0), .ref (L 6 0)]))], dyW cyI Ad D', dyW cyI At T, shW cyI As S, ctW cyI Ac C, hiW cyI cyO L V, mdW cyI Am M', [(ao, .inl (cyJ, 1, .inr (.inl (f'))))]]) H := hP
  have hD : va_D A9 (cat [[(h, .inr (5, [.ref (Ad 0), .ref (At 0), .ref (As 0), .ref (Ac 0), .ref (L 6 0)]))], dyW cyI Ad D', dyW cyI At T, shW cyI As S, ctW cyI Ac C, hiW cyI cyO L V, mdW cyI Am M', [(ao, .inl (cyJ, 1, .inr (.inl (f'))))]]) := hD
  refine top_i (x' := k) hth ?_
  refine lv_iload hx hb dL_law_689 (lv_at hl 1 rfl) ?_
  refine lv_icmp_eq (tgt := 696) hx hb dL_law_691 (by decide) (fun c_691 => ?_) (fun c_691 => ?_)
  · refine lv_iload hx hb dL_law_696 (lv_at hl 1 rfl) ?_
    refine lv_if_ne (tgt := 713) hx hb dL_law_698 (by decide) (fun c_698 => ?_) (fun c_698 => ?_)
    · refine lv_goto (tgt := 1444) hx hb dL_law_713 (by decide) ?_
      exact kk _ _ _ ⟨L, D', T, S, C, V, M', f', hP, hD, hS, lv_sub hl [2, 3, 4, 5, 6] rfl, hR'⟩
    · refine lv_aload_n hx hb dL_law_701 rfl (lv_at hl 3 rfl) ?_
      refine lv_iconst (v := (0 : Int32)) hx hb dL_law_702 (by decide) ?_
      refine va_lald (f := f') hx hb hK hP 115 2 rfl rfl in01 dL_law_703 ?_
      refine top_l (x' := f' 0) rfl ?_
      refine top_l (x' := a'.toInt64) (hans c_698) ?_
      refine lv_iload hx hb dL_law_704 (lv_at hl 0 rfl) ?_
      refine lv_i2l (v := a'.toInt64) hx hb dL_law_706 rfl ?_
      refine W.lcmp hx hb dL_law_707 ?_
      refine lv_if_eq (tgt := 713) hx hb dL_law_708 (by decide) (fun c_708 => ?_) (fun c_708 => ?_)
      · refine lv_goto (tgt := 1444) hx hb dL_law_713 (by decide) ?_
        exact kk _ _ _ ⟨L, D', T, S, C, V, M', f', hP, hD, hS, lv_sub hl [2, 3, 4, 5, 6] rfl, hR'⟩
      · exact absurd (lg_self _) c_708
  · exact absurd rfl c_691
set_option maxHeartbeats 4000000 in
set_option maxRecDepth 100000 in
theorem law_load {p9 : Program} {l : Launch} {e9 : Env} {s9 : State} {m9 : MethodId} {b9 : List Frame} {t9 : Method} {c9 : Code} {A9 : Nat → Prop} {G : va_G} {cyI cyO cyJ : ClassId} {b Ln : Nat} {xs : Nat → Int32} {Q : State → Prop} {h : Nat} {Ad At As Ac Am : Nat → Nat} {ao i cells slots : Nat} {H : Heap} {locs : List Loc} {ls : Array Slot} (hC : LC p9 l s9 m9 c9 A9 G cyI cyO cyJ b Ln xs) (hi : i + 2 < Ln) (hLn : Ln ≤ 1536) (hcs : cells + 1 ≤ 609290 ∧ slots + 6 ≤ 7268235) (hJ : LJ G cyI cyO cyJ s9 A9 b h Ad At As Ac Am ao i H locs ls)
    (kk : ∀ (H : Heap) (locs : List Loc) (ls : Array Slot), LJ G cyI cyO cyJ s9 A9 b h Ad At As Ac Am ao i H locs ls → W p9 l e9 room_1 s9 m9 #[Value.ref b] b9 t9 c9 H locs (cells + 1) (slots + 6) Q (F0 m9 1444 ls [])) :
    W p9 l e9 room_1 s9 m9 #[Value.ref b] b9 t9 c9 H locs cells slots Q (F0 m9 716 ls []) := by
  obtain ⟨hx, hb, hml, hown, hts, hscr, hbl, hbA, hA, hK, hX, htr⟩ := hC
  obtain ⟨L, D, T, S, C, V, M, f, hP, hD, hS, hl, hR⟩ := hJ
  have hK2 := hK.sub [0, 1] (tys' := TY cyI cyO) rfl
  have hcs0 : cells ≤ 609290 ∧ slots ≤ 7268235 := ⟨by omega, by omega⟩
  have hP : va_P G vwCl (cat [[(h, .inr (5, [.ref (Ad 0), .ref (At 0), .ref (As 0), .ref (Ac 0), .ref (L 6 0)]))], dyW cyI Ad D, dyW cyI At T, shW cyI As S, ctW cyI Ac C, hiW cyI cyO L V, mdW cyI Am M, [(ao, .inl (cyJ, 1, .inr (.inl (f))))]]) H := hP
  have hD : va_D A9 (cat [[(h, .inr (5, [.ref (Ad 0), .ref (At 0), .ref (As 0), .ref (Ac 0), .ref (L 6 0)]))], dyW cyI Ad D, dyW cyI At T, shW cyI As S, ctW cyI Ac C, hiW cyI cyO L V, mdW cyI Am M, [(ao, .inl (cyJ, 1, .inr (.inl (f))))]]) := hD
  refine lv_aload_n hx hb dL_law_716 rfl (lv_at hl 3 rfl) ?_
  refine lv_aload_n hx hb dL_law_717 rfl (lv_at hl 4 rfl) ?_
  refine lv_iload hx hb dL_law_718 (lv_at hl 0 rfl) ?_
  refine lv_iconst (v := (1 : Int32)) hx hb dL_law_720 (by decide) ?_
  refine lv_iadd hx hb dL_law_721 ?_
  refine top_i (x' := nI (i + 1)) (nI_add (i) (1)) ?_
  refine va_sld hx hb hscr hbl hbA hS (vp_in_nI (n := i + 1) (by omega) (by omega)) dL_law_722 ?_
  refine top_i (x' := xs (i + 1)) (by rw [nI_clamp (by omega)]) ?_
  refine lv_aload_n hx hb dL_law_723 rfl (lv_at hl 1 rfl) ?_
  obtain ⟨k, D', f', M', a', hM, hm, ⟨hth, hans⟩, hR'⟩ := s_load l G cyI cyO cyJ h Ad At As Ac Am ao L D T S C V M f (xs (i + 1)) htr hR
  refine gHi (gs := [[(h, .inr (5, [.ref (Ad 0), .ref (At 0), .ref (As 0), .ref (Ac 0), .ref (L 6 0)]))], dyW cyI Ad D, dyW cyI At T, shW cyI As S, ctW cyI Ac C, hiW cyI cyO L V, mdW cyI Am M, [(ao, .inl (cyJ, 1, .inr (.inl (f))))]]) (As := [.ref (h), .int (xs (i + 1)), .ref (ao)]) (rest := []) ⟨hx, hb, hml, hown, hts⟩ hM (vx_cwSW 3 hts gL_law_L_load rfl rfl rfl (by decide +kernel) ⟨Nat.le_of_ble_eq_true rfl, Nat.le_of_ble_eq_true rfl⟩) hK hX hP hD hS hA [0, 1, 7] rfl rfl rfl rfl hl.1 rfl (Nat.le_of_ble_eq_true rfl) dL_law_724 hcs (fun H locs hP hD hS => ?_)
  have hP : va_P G vwCl (cat [[(h, .inr (5, [.ref (Ad 0), .ref (At 0), .ref (As 0), .ref (Ac 0), .ref (L 6 0)]))], dyW cyI Ad D', dyW cyI At T, shW cyI As S, ctW cyI Ac C, hiW cyI cyO L V, mdW cyI Am M, [(ao, .inl (cyJ, 1, .inr (.inl (f'))))]]) H := hP
  have hD : va_D A9 (cat [[(h, .inr (5, [.ref (Ad 0), .ref (At 0), .ref (As 0), .ref (Ac 0), .ref (L 6 0)]))], dyW cyI Ad D', dyW cyI At T, shW cyI As S, ctW cyI Ac C, hiW cyI cyO L V, mdW cyI Am M, [(ao, .inl (cyJ, 1, .inr (.inl (f'))))]]) := hD
  refine lv_istore (lv' := [(5, .int (k)), (4, .int (nI (i))), (3, .ref (ao)), (2, .ref (Am 0)), (1, .ref (h)), (0, .ref (b))]) hx hb dL_law_727 hl (by decide) rfl (fun ls hl => ?_)
  refine lv_aload_n hx hb dL_law_729 rfl (lv_at hl 3 rfl) ?_
  refine lv_aload_n hx hb dL_law_730 rfl (lv_at hl 5 rfl) ?_
  refine lv_iload hx hb dL_law_731 (lv_at hl 1 rfl) ?_
  refine lv_iconst (v := (1 : Int32)) hx hb dL_law_733 (by decide) ?_
  refine lv_iadd hx hb dL_law_734 ?_
  refine top_i (x' := nI (i + 1)) (nI_add (i) (1)) ?_
  refine va_sld hx hb hscr hbl hbA hS (vp_in_nI (n := i + 1) (by omega) (by omega)) dL_law_735 ?_
  refine top_i (x' := xs (i + 1)) (by rw [nI_clamp (by omega)]) ?_
  refine gVi (gs := [[(h, .inr (5, [.ref (Ad 0), .ref (At 0), .ref (As 0), .ref (Ac 0), .ref (L 6 0)]))], dyW cyI Ad D', dyW cyI At T, shW cyI As S, ctW cyI Ac C, hiW cyI cyO L V, mdW cyI Am M, [(ao, .inl (cyJ, 1, .inr (.inl (f'))))]]) (As := [.int (xs (i + 1))]) (rest := []) ⟨hx, hb, hml, hown, hts⟩ hm (cwV 1 hts gL_law_X6_load rfl rfl rfl (by decide +kernel) ⟨Nat.le_of_ble_eq_true rfl, Nat.le_of_ble_eq_true rfl⟩) hK2 hP hD hS hA [6] rfl rfl rfl 0 6 rfl rfl rfl hl.1 rfl (Nat.le_of_ble_eq_true rfl) dL_law_736 hcs (fun H locs hP hD hS => ?_)
  have hP : va_P G vwCl (cat [[(h, .inr (5, [.ref (Ad 0), .ref (At 0), .ref (As 0), .ref (Ac 0), .ref (L 6 0)]))], dyW cyI Ad D', dyW cyI At T, shW cyI As S, ctW cyI Ac C, hiW cyI cyO L V, mdW cyI Am M', [(ao, .inl (cyJ, 1, .inr (.inl (f'))))]]) H := hP
  have hD : va_D A9 (cat [[(h, .inr (5, [.ref (Ad 0), .ref (At 0), .ref (As 0), .ref (Ac 0), .ref (L 6 0)]))], dyW cyI Ad D', dyW cyI At T, shW cyI As S, ctW cyI Ac C, hiW cyI cyO L V, mdW cyI Am M', [(ao, .inl (cyJ, 1, .inr (.inl (f'))))]]) := hD
  refine lv_istore (lv' := [(6, .int (a')), (5, .int (k)), (4, .int (nI (i))), (3, .ref (ao)), (2, .ref (Am 0)), (1, .ref (h)), (0, .ref (b))]) hx hb dL_law_739 hl (by decide) rfl (fun ls hl => ?_)
  refine lv_aload_n hx hb dL_law_741 rfl (lv_at hl 4 rfl) ?_
  refine gVi (gs := [[(h, .inr (5, [.ref (Ad 0), .ref (At 0), .ref (As 0), .ref (Ac 0), .ref (L 6 0)]))], dyW cyI Ad D', dyW cyI At T, shW cyI As S, ctW cyI Ac C, hiW cyI cyO L V, mdW cyI Am M', [(ao, .inl (cyJ, 1, .inr (.inl (f'))))]]) (As := []) (rest := []) ⟨hx, hb, hml, hown, hts⟩ (c_X6_thrown l G cyI cyO Am M') (cwV 0 hts gL_law_X6_thrown rfl rfl rfl (by decide +kernel) ⟨Nat.le_of_ble_eq_true rfl, Nat.le_of_ble_eq_true rfl⟩) hK2 hP hD hS hA [6] rfl rfl rfl 0 6 rfl rfl rfl hl.1 rfl (Nat.le_of_ble_eq_true rfl) dL_law_742 hcs (fun H locs hP hD hS => ?_)
  have hP : va_P G vwCl (cat [[(h, .inr (5, [.ref (Ad 0), .ref (At 0), .ref (As 0), .ref (Ac 0), .ref (L 6 0)]))], dyW cyI Ad D', dyW cyI At T, shW cyI As S, ctW cyI Ac C, hiW cyI cyO L V, mdW cyI Am M', [(ao, .inl (cyJ, 1, .inr (.inl (f'))))]]) H := hP
  have hD : va_D A9 (cat [[(h, .inr (5, [.ref (Ad 0), .ref (At 0), .ref (As 0), .ref (Ac 0), .ref (L 6 0)]))], dyW cyI Ad D', dyW cyI At T, shW cyI As S, ctW cyI Ac C, hiW cyI cyO L V, mdW cyI Am M', [(ao, .inl (cyJ, 1, .inr (.inl (f'))))]]) := hD
  refine top_i (x' := k) hth ?_
  refine lv_iload hx hb dL_law_745 (lv_at hl 1 rfl) ?_
  refine lv_icmp_eq (tgt := 752) hx hb dL_law_747 (by decide) (fun c_747 => ?_) (fun c_747 => ?_)
  · refine lv_iload hx hb dL_law_752 (lv_at hl 1 rfl) ?_
    refine lv_if_ne (tgt := 769) hx hb dL_law_754 (by decide) (fun c_754 => ?_) (fun c_754 => ?_)
    · refine lv_goto (tgt := 1444) hx hb dL_law_769 (by decide) ?_
      exact kk _ _ _ ⟨L, D', T, S, C, V, M', f', hP, hD, hS, lv_sub hl [2, 3, 4, 5, 6] rfl, hR'⟩
    · refine lv_aload_n hx hb dL_law_757 rfl (lv_at hl 3 rfl) ?_
      refine lv_iconst (v := (0 : Int32)) hx hb dL_law_758 (by decide) ?_
      refine va_lald (f := f') hx hb hK hP 115 2 rfl rfl in01 dL_law_759 ?_
      refine top_l (x' := f' 0) rfl ?_
      refine top_l (x' := a'.toInt64) (hans c_754) ?_
      refine lv_iload hx hb dL_law_760 (lv_at hl 0 rfl) ?_
      refine lv_i2l (v := a'.toInt64) hx hb dL_law_762 rfl ?_
      refine W.lcmp hx hb dL_law_763 ?_
      refine lv_if_eq (tgt := 769) hx hb dL_law_764 (by decide) (fun c_764 => ?_) (fun c_764 => ?_)
      · refine lv_goto (tgt := 1444) hx hb dL_law_769 (by decide) ?_
        exact kk _ _ _ ⟨L, D', T, S, C, V, M', f', hP, hD, hS, lv_sub hl [2, 3, 4, 5, 6] rfl, hR'⟩
      · exact absurd (lg_self _) c_764
  · exact absurd rfl c_747
set_option maxHeartbeats 4000000 in
set_option maxRecDepth 100000 in
theorem law_plan {p9 : Program} {l : Launch} {e9 : Env} {s9 : State} {m9 : MethodId} {b9 : List Frame} {t9 : Method} {c9 : Code} {A9 : Nat → Prop} {G : va_G} {cyI cyO cyJ : ClassId} {b Ln : Nat} {xs : Nat → Int32} {Q : State → Prop} {h : Nat} {Ad At As Ac Am : Nat → Nat} {ao i cells slots : Nat} {H : Heap} {locs : List Loc} {ls : Array Slot} (hC : LC p9 l s9 m9 c9 A9 G cyI cyO cyJ b Ln xs) (hi : i + 2 < Ln) (hLn : Ln ≤ 1536) (hcs : cells + 1 ≤ 609290 ∧ slots + 6 ≤ 7268235) (hJ : LJ G cyI cyO cyJ s9 A9 b h Ad At As Ac Am ao i H locs ls)
    (kk : ∀ (H : Heap) (locs : List Loc) (ls : Array Slot), LJ G cyI cyO cyJ s9 A9 b h Ad At As Ac Am ao i H locs ls → W p9 l e9 room_1 s9 m9 #[Value.ref b] b9 t9 c9 H locs (cells + 1) (slots + 6) Q (F0 m9 1444 ls [])) :
    W p9 l e9 room_1 s9 m9 #[Value.ref b] b9 t9 c9 H locs cells slots Q (F0 m9 772 ls []) := by
  obtain ⟨hx, hb, hml, hown, hts, hscr, hbl, hbA, hA, hK, hX, htr⟩ := hC
  obtain ⟨L, D, T, S, C, V, M, f, hP, hD, hS, hl, hR⟩ := hJ
  have hK2 := hK.sub [0, 1] (tys' := TY cyI cyO) rfl
  have hcs0 : cells ≤ 609290 ∧ slots ≤ 7268235 := ⟨by omega, by omega⟩
  have hP : va_P G vwCl (cat [[(h, .inr (5, [.ref (Ad 0), .ref (At 0), .ref (As 0), .ref (Ac 0), .ref (L 6 0)]))], dyW cyI Ad D, dyW cyI At T, shW cyI As S, ctW cyI Ac C, hiW cyI cyO L V, mdW cyI Am M, [(ao, .inl (cyJ, 1, .inr (.inl (f))))]]) H := hP
  have hD : va_D A9 (cat [[(h, .inr (5, [.ref (Ad 0), .ref (At 0), .ref (As 0), .ref (Ac 0), .ref (L 6 0)]))], dyW cyI Ad D, dyW cyI At T, shW cyI As S, ctW cyI Ac C, hiW cyI cyO L V, mdW cyI Am M, [(ao, .inl (cyJ, 1, .inr (.inl (f))))]]) := hD
  refine lv_aload_n hx hb dL_law_772 rfl (lv_at hl 3 rfl) ?_
  refine lv_aload_n hx hb dL_law_773 rfl (lv_at hl 1 rfl) ?_
  obtain ⟨k, L', S', D', V', f', M', a', hM, hm, ⟨hth, hans⟩, hR'⟩ := s_plan l G cyI cyO cyJ h Ad At As Ac Am ao L D T S C V M f  htr hR
  refine gHi (gs := [[(h, .inr (5, [.ref (Ad 0), .ref (At 0), .ref (As 0), .ref (Ac 0), .ref (L 6 0)]))], dyW cyI Ad D, dyW cyI At T, shW cyI As S, ctW cyI Ac C, hiW cyI cyO L V, mdW cyI Am M, [(ao, .inl (cyJ, 1, .inr (.inl (f))))]]) (As := [.ref (h), .ref (ao)]) (rest := []) ⟨hx, hb, hml, hown, hts⟩ hM (vx_cwSW 2 hts gL_law_L_plan rfl rfl rfl (by decide +kernel) ⟨Nat.le_of_ble_eq_true rfl, Nat.le_of_ble_eq_true rfl⟩) hK hX hP hD hS hA [0, 3, 1, 5, 7] rfl rfl rfl rfl hl.1 rfl (Nat.le_of_ble_eq_true rfl) dL_law_774 hcs (fun H locs hP hD hS => ?_)
  have hP : va_P G vwCl (cat [[(h, .inr (5, [.ref (Ad 0), .ref (At 0), .ref (As 0), .ref (Ac 0), .ref (L' 6 0)]))], dyW cyI Ad D', dyW cyI At T, shW cyI As S', ctW cyI Ac C, hiW cyI cyO L' V', mdW cyI Am M, [(ao, .inl (cyJ, 1, .inr (.inl (f'))))]]) H := hP
  have hD : va_D A9 (cat [[(h, .inr (5, [.ref (Ad 0), .ref (At 0), .ref (As 0), .ref (Ac 0), .ref (L' 6 0)]))], dyW cyI Ad D', dyW cyI At T, shW cyI As S', ctW cyI Ac C, hiW cyI cyO L' V', mdW cyI Am M, [(ao, .inl (cyJ, 1, .inr (.inl (f'))))]]) := hD
  refine lv_istore (lv' := [(5, .int (k)), (4, .int (nI (i))), (3, .ref (ao)), (2, .ref (Am 0)), (1, .ref (h)), (0, .ref (b))]) hx hb dL_law_777 hl (by decide) rfl (fun ls hl => ?_)
  refine lv_aload_n hx hb dL_law_779 rfl (lv_at hl 3 rfl) ?_
  refine gVi (gs := [[(h, .inr (5, [.ref (Ad 0), .ref (At 0), .ref (As 0), .ref (Ac 0), .ref (L' 6 0)]))], dyW cyI Ad D', dyW cyI At T, shW cyI As S', ctW cyI Ac C, hiW cyI cyO L' V', mdW cyI Am M, [(ao, .inl (cyJ, 1, .inr (.inl (f'))))]]) (As := []) (rest := []) ⟨hx, hb, hml, hown, hts⟩ hm (cwV 0 hts gL_law_X6_plan rfl rfl rfl (by decide +kernel) ⟨Nat.le_of_ble_eq_true rfl, Nat.le_of_ble_eq_true rfl⟩) hK2 hP hD hS hA [6] rfl rfl rfl 0 6 rfl rfl rfl hl.1 rfl (Nat.le_of_ble_eq_true rfl) dL_law_780 hcs (fun H locs hP hD hS => ?_)
  have hP : va_P G vwCl (cat [[(h, .inr (5, [.ref (Ad 0), .ref (At 0), .ref (As 0), .ref (Ac 0), .ref (L' 6 0)]))], dyW cyI Ad D', dyW cyI At T, shW cyI As S', ctW cyI Ac C, hiW cyI cyO L' V', mdW cyI Am M', [(ao, .inl (cyJ, 1, .inr (.inl (f'))))]]) H := hP
  have hD : va_D A9 (cat [[(h, .inr (5, [.ref (Ad 0), .ref (At 0), .ref (As 0), .ref (Ac 0), .ref (L' 6 0)]))], dyW cyI Ad D', dyW cyI At T, shW cyI As S', ctW cyI Ac C, hiW cyI cyO L' V', mdW cyI Am M', [(ao, .inl (cyJ, 1, .inr (.inl (f'))))]]) := hD
  refine lv_istore (lv' := [(6, .int (a')), (5, .int (k)), (4, .int (nI (i))), (3, .ref (ao)), (2, .ref (Am 0)), (1, .ref (h)), (0, .ref (b))]) hx hb dL_law_783 hl (by decide) rfl (fun ls hl => ?_)
  refine lv_aload_n hx hb dL_law_785 rfl (lv_at hl 4 rfl) ?_
  refine gVi (gs := [[(h, .inr (5, [.ref (Ad 0), .ref (At 0), .ref (As 0), .ref (Ac 0), .ref (L' 6 0)]))], dyW cyI Ad D', dyW cyI At T, shW cyI As S', ctW cyI Ac C, hiW cyI cyO L' V', mdW cyI Am M', [(ao, .inl (cyJ, 1, .inr (.inl (f'))))]]) (As := []) (rest := []) ⟨hx, hb, hml, hown, hts⟩ (c_X6_thrown l G cyI cyO Am M') (cwV 0 hts gL_law_X6_thrown rfl rfl rfl (by decide +kernel) ⟨Nat.le_of_ble_eq_true rfl, Nat.le_of_ble_eq_true rfl⟩) hK2 hP hD hS hA [6] rfl rfl rfl 0 6 rfl rfl rfl hl.1 rfl (Nat.le_of_ble_eq_true rfl) dL_law_786 hcs (fun H locs hP hD hS => ?_)
  have hP : va_P G vwCl (cat [[(h, .inr (5, [.ref (Ad 0), .ref (At 0), .ref (As 0), .ref (Ac 0), .ref (L' 6 0)]))], dyW cyI Ad D', dyW cyI At T, shW cyI As S', ctW cyI Ac C, hiW cyI cyO L' V', mdW cyI Am M', [(ao, .inl (cyJ, 1, .inr (.inl (f'))))]]) H := hP
  have hD : va_D A9 (cat [[(h, .inr (5, [.ref (Ad 0), .ref (At 0), .ref (As 0), .ref (Ac 0), .ref (L' 6 0)]))], dyW cyI Ad D', dyW cyI At T, shW cyI As S', ctW cyI Ac C, hiW cyI cyO L' V', mdW cyI Am M', [(ao, .inl (cyJ, 1, .inr (.inl (f'))))]]) := hD
  refine top_i (x' := k) hth ?_
  refine lv_iload hx hb dL_law_789 (lv_at hl 1 rfl) ?_
  refine lv_icmp_eq (tgt := 796) hx hb dL_law_791 (by decide) (fun c_791 => ?_) (fun c_791 => ?_)
  · refine lv_iload hx hb dL_law_796 (lv_at hl 1 rfl) ?_
    refine lv_if_ne (tgt := 813) hx hb dL_law_798 (by decide) (fun c_798 => ?_) (fun c_798 => ?_)
    · refine lv_goto (tgt := 1444) hx hb dL_law_813 (by decide) ?_
      exact kk _ _ _ ⟨L', D', T, S', C, V', M', f', hP, hD, hS, lv_sub hl [2, 3, 4, 5, 6] rfl, hR'⟩
    · refine lv_aload_n hx hb dL_law_801 rfl (lv_at hl 3 rfl) ?_
      refine lv_iconst (v := (0 : Int32)) hx hb dL_law_802 (by decide) ?_
      refine va_lald (f := f') hx hb hK hP 115 2 rfl rfl in01 dL_law_803 ?_
      refine top_l (x' := f' 0) rfl ?_
      refine top_l (x' := a'.toInt64) (hans c_798) ?_
      refine lv_iload hx hb dL_law_804 (lv_at hl 0 rfl) ?_
      refine lv_i2l (v := a'.toInt64) hx hb dL_law_806 rfl ?_
      refine W.lcmp hx hb dL_law_807 ?_
      refine lv_if_eq (tgt := 813) hx hb dL_law_808 (by decide) (fun c_808 => ?_) (fun c_808 => ?_)
      · refine lv_goto (tgt := 1444) hx hb dL_law_813 (by decide) ?_
        exact kk _ _ _ ⟨L', D', T, S', C, V', M', f', hP, hD, hS, lv_sub hl [2, 3, 4, 5, 6] rfl, hR'⟩
      · exact absurd (lg_self _) c_808
  · exact absurd rfl c_791
set_option maxHeartbeats 4000000 in
set_option maxRecDepth 100000 in
theorem law_handOver {p9 : Program} {l : Launch} {e9 : Env} {s9 : State} {m9 : MethodId} {b9 : List Frame} {t9 : Method} {c9 : Code} {A9 : Nat → Prop} {G : va_G} {cyI cyO cyJ : ClassId} {b Ln : Nat} {xs : Nat → Int32} {Q : State → Prop} {h : Nat} {Ad At As Ac Am : Nat → Nat} {ao i cells slots : Nat} {H : Heap} {locs : List Loc} {ls : Array Slot} (hC : LC p9 l s9 m9 c9 A9 G cyI cyO cyJ b Ln xs) (hi : i + 2 < Ln) (hLn : Ln ≤ 1536) (hcs : cells + 1 ≤ 609290 ∧ slots + 6 ≤ 7268235) (hJ : LJ G cyI cyO cyJ s9 A9 b h Ad At As Ac Am ao i H locs ls)
    (kk : ∀ (H : Heap) (locs : List Loc) (ls : Array Slot), LJ G cyI cyO cyJ s9 A9 b h Ad At As Ac Am ao i H locs ls → W p9 l e9 room_1 s9 m9 #[Value.ref b] b9 t9 c9 H locs (cells + 1) (slots + 6) Q (F0 m9 1444 ls [])) :
    W p9 l e9 room_1 s9 m9 #[Value.ref b] b9 t9 c9 H locs cells slots Q (F0 m9 816 ls []) := by
  obtain ⟨hx, hb, hml, hown, hts, hscr, hbl, hbA, hA, hK, hX, htr⟩ := hC
  obtain ⟨L, D, T, S, C, V, M, f, hP, hD, hS, hl, hR⟩ := hJ
  have hK2 := hK.sub [0, 1] (tys' := TY cyI cyO) rfl
  have hcs0 : cells ≤ 609290 ∧ slots ≤ 7268235 := ⟨by omega, by omega⟩
  have hP : va_P G vwCl (cat [[(h, .inr (5, [.ref (Ad 0), .ref (At 0), .ref (As 0), .ref (Ac 0), .ref (L 6 0)]))], dyW cyI Ad D, dyW cyI At T, shW cyI As S, ctW cyI Ac C, hiW cyI cyO L V, mdW cyI Am M, [(ao, .inl (cyJ, 1, .inr (.inl (f))))]]) H := hP
  have hD : va_D A9 (cat [[(h, .inr (5, [.ref (Ad 0), .ref (At 0), .ref (As 0), .ref (Ac 0), .ref (L 6 0)]))], dyW cyI Ad D, dyW cyI At T, shW cyI As S, ctW cyI Ac C, hiW cyI cyO L V, mdW cyI Am M, [(ao, .inl (cyJ, 1, .inr (.inl (f))))]]) := hD
  refine lv_aload_n hx hb dL_law_816 rfl (lv_at hl 3 rfl) ?_
  refine lv_aload_n hx hb dL_law_817 rfl (lv_at hl 1 rfl) ?_
  obtain ⟨k, L', D', V', f', M', a', hM, hm, ⟨hth, hans⟩, hR'⟩ := s_handOver l G cyI cyO cyJ h Ad At As Ac Am ao L D T S C V M f  htr hR
  refine gHi (gs := [[(h, .inr (5, [.ref (Ad 0), .ref (At 0), .ref (As 0), .ref (Ac 0), .ref (L 6 0)]))], dyW cyI Ad D, dyW cyI At T, shW cyI As S, ctW cyI Ac C, hiW cyI cyO L V, mdW cyI Am M, [(ao, .inl (cyJ, 1, .inr (.inl (f))))]]) (As := [.ref (h), .ref (ao)]) (rest := []) ⟨hx, hb, hml, hown, hts⟩ hM (vx_cwSW 2 hts gL_law_L_handOver rfl rfl rfl (by decide +kernel) ⟨Nat.le_of_ble_eq_true rfl, Nat.le_of_ble_eq_true rfl⟩) hK hX hP hD hS hA [0, 1, 5, 7] rfl rfl rfl rfl hl.1 rfl (Nat.le_of_ble_eq_true rfl) dL_law_818 hcs (fun H locs hP hD hS => ?_)
  have hP : va_P G vwCl (cat [[(h, .inr (5, [.ref (Ad 0), .ref (At 0), .ref (As 0), .ref (Ac 0), .ref (L' 6 0)]))], dyW cyI Ad D', dyW cyI At T, shW cyI As S, ctW cyI Ac C, hiW cyI cyO L' V', mdW cyI Am M, [(ao, .inl (cyJ, 1, .inr (.inl (f'))))]]) H := hP
  have hD : va_D A9 (cat [[(h, .inr (5, [.ref (Ad 0), .ref (At 0), .ref (As 0), .ref (Ac 0), .ref (L' 6 0)]))], dyW cyI Ad D', dyW cyI At T, shW cyI As S, ctW cyI Ac C, hiW cyI cyO L' V', mdW cyI Am M, [(ao, .inl (cyJ, 1, .inr (.inl (f'))))]]) := hD
  refine lv_istore (lv' := [(5, .int (k)), (4, .int (nI (i))), (3, .ref (ao)), (2, .ref (Am 0)), (1, .ref (h)), (0, .ref (b))]) hx hb dL_law_821 hl (by decide) rfl (fun ls hl => ?_)
  refine lv_aload_n hx hb dL_law_823 rfl (lv_at hl 3 rfl) ?_
  refine gVi (gs := [[(h, .inr (5, [.ref (Ad 0), .ref (At 0), .ref (As 0), .ref (Ac 0), .ref (L' 6 0)]))], dyW cyI Ad D', dyW cyI At T, shW cyI As S, ctW cyI Ac C, hiW cyI cyO L' V', mdW cyI Am M, [(ao, .inl (cyJ, 1, .inr (.inl (f'))))]]) (As := []) (rest := []) ⟨hx, hb, hml, hown, hts⟩ hm (cwV 0 hts gL_law_X6_handOver rfl rfl rfl (by decide +kernel) ⟨Nat.le_of_ble_eq_true rfl, Nat.le_of_ble_eq_true rfl⟩) hK2 hP hD hS hA [6] rfl rfl rfl 0 6 rfl rfl rfl hl.1 rfl (Nat.le_of_ble_eq_true rfl) dL_law_824 hcs (fun H locs hP hD hS => ?_)
  have hP : va_P G vwCl (cat [[(h, .inr (5, [.ref (Ad 0), .ref (At 0), .ref (As 0), .ref (Ac 0), .ref (L' 6 0)]))], dyW cyI Ad D', dyW cyI At T, shW cyI As S, ctW cyI Ac C, hiW cyI cyO L' V', mdW cyI Am M', [(ao, .inl (cyJ, 1, .inr (.inl (f'))))]]) H := hP
  have hD : va_D A9 (cat [[(h, .inr (5, [.ref (Ad 0), .ref (At 0), .ref (As 0), .ref (Ac 0), .ref (L' 6 0)]))], dyW cyI Ad D', dyW cyI At T, shW cyI As S, ctW cyI Ac C, hiW cyI cyO L' V', mdW cyI Am M', [(ao, .inl (cyJ, 1, .inr (.inl (f'))))]]) := hD
  refine lv_istore (lv' := [(6, .int (a')), (5, .int (k)), (4, .int (nI (i))), (3, .ref (ao)), (2, .ref (Am 0)), (1, .ref (h)), (0, .ref (b))]) hx hb dL_law_827 hl (by decide) rfl (fun ls hl => ?_)
  refine lv_aload_n hx hb dL_law_829 rfl (lv_at hl 4 rfl) ?_
  refine gVi (gs := [[(h, .inr (5, [.ref (Ad 0), .ref (At 0), .ref (As 0), .ref (Ac 0), .ref (L' 6 0)]))], dyW cyI Ad D', dyW cyI At T, shW cyI As S, ctW cyI Ac C, hiW cyI cyO L' V', mdW cyI Am M', [(ao, .inl (cyJ, 1, .inr (.inl (f'))))]]) (As := []) (rest := []) ⟨hx, hb, hml, hown, hts⟩ (c_X6_thrown l G cyI cyO Am M') (cwV 0 hts gL_law_X6_thrown rfl rfl rfl (by decide +kernel) ⟨Nat.le_of_ble_eq_true rfl, Nat.le_of_ble_eq_true rfl⟩) hK2 hP hD hS hA [6] rfl rfl rfl 0 6 rfl rfl rfl hl.1 rfl (Nat.le_of_ble_eq_true rfl) dL_law_830 hcs (fun H locs hP hD hS => ?_)
  have hP : va_P G vwCl (cat [[(h, .inr (5, [.ref (Ad 0), .ref (At 0), .ref (As 0), .ref (Ac 0), .ref (L' 6 0)]))], dyW cyI Ad D', dyW cyI At T, shW cyI As S, ctW cyI Ac C, hiW cyI cyO L' V', mdW cyI Am M', [(ao, .inl (cyJ, 1, .inr (.inl (f'))))]]) H := hP
  have hD : va_D A9 (cat [[(h, .inr (5, [.ref (Ad 0), .ref (At 0), .ref (As 0), .ref (Ac 0), .ref (L' 6 0)]))], dyW cyI Ad D', dyW cyI At T, shW cyI As S, ctW cyI Ac C, hiW cyI cyO L' V', mdW cyI Am M', [(ao, .inl (cyJ, 1, .inr (.inl (f'))))]]) := hD
  refine top_i (x' := k) hth ?_
  refine lv_iload hx hb dL_law_833 (lv_at hl 1 rfl) ?_
  refine lv_icmp_eq (tgt := 840) hx hb dL_law_835 (by decide) (fun c_835 => ?_) (fun c_835 => ?_)
  · refine lv_iload hx hb dL_law_840 (lv_at hl 1 rfl) ?_
    refine lv_if_ne (tgt := 857) hx hb dL_law_842 (by decide) (fun c_842 => ?_) (fun c_842 => ?_)
    · refine lv_goto (tgt := 1444) hx hb dL_law_857 (by decide) ?_
      exact kk _ _ _ ⟨L', D', T, S, C, V', M', f', hP, hD, hS, lv_sub hl [2, 3, 4, 5, 6] rfl, hR'⟩
    · refine lv_aload_n hx hb dL_law_845 rfl (lv_at hl 3 rfl) ?_
      refine lv_iconst (v := (0 : Int32)) hx hb dL_law_846 (by decide) ?_
      refine va_lald (f := f') hx hb hK hP 115 2 rfl rfl in01 dL_law_847 ?_
      refine top_l (x' := f' 0) rfl ?_
      refine top_l (x' := a'.toInt64) (hans c_842) ?_
      refine lv_iload hx hb dL_law_848 (lv_at hl 0 rfl) ?_
      refine lv_i2l (v := a'.toInt64) hx hb dL_law_850 rfl ?_
      refine W.lcmp hx hb dL_law_851 ?_
      refine lv_if_eq (tgt := 857) hx hb dL_law_852 (by decide) (fun c_852 => ?_) (fun c_852 => ?_)
      · refine lv_goto (tgt := 1444) hx hb dL_law_857 (by decide) ?_
        exact kk _ _ _ ⟨L', D', T, S, C, V', M', f', hP, hD, hS, lv_sub hl [2, 3, 4, 5, 6] rfl, hR'⟩
      · exact absurd (lg_self _) c_852
  · exact absurd rfl c_835
set_option maxHeartbeats 4000000 in
set_option maxRecDepth 100000 in
theorem law_callOff {p9 : Program} {l : Launch} {e9 : Env} {s9 : State} {m9 : MethodId} {b9 : List Frame} {t9 : Method} {c9 : Code} {A9 : Nat → Prop} {G : va_G} {cyI cyO cyJ : ClassId} {b Ln : Nat} {xs : Nat → Int32} {Q : State → Prop} {h : Nat} {Ad At As Ac Am : Nat → Nat} {ao i cells slots : Nat} {H : Heap} {locs : List Loc} {ls : Array Slot} (hC : LC p9 l s9 m9 c9 A9 G cyI cyO cyJ b Ln xs) (hi : i + 2 < Ln) (hLn : Ln ≤ 1536) (hcs : cells + 1 ≤ 609290 ∧ slots + 6 ≤ 7268235) (hJ : LJ G cyI cyO cyJ s9 A9 b h Ad At As Ac Am ao i H locs ls)
    (kk : ∀ (H : Heap) (locs : List Loc) (ls : Array Slot), LJ G cyI cyO cyJ s9 A9 b h Ad At As Ac Am ao i H locs ls → W p9 l e9 room_1 s9 m9 #[Value.ref b] b9 t9 c9 H locs (cells + 1) (slots + 6) Q (F0 m9 1444 ls [])) :
    W p9 l e9 room_1 s9 m9 #[Value.ref b] b9 t9 c9 H locs cells slots Q (F0 m9 860 ls []) := by
  obtain ⟨hx, hb, hml, hown, hts, hscr, hbl, hbA, hA, hK, hX, htr⟩ := hC
  obtain ⟨L, D, T, S, C, V, M, f, hP, hD, hS, hl, hR⟩ := hJ
  have hK2 := hK.sub [0, 1] (tys' := TY cyI cyO) rfl
  have hcs0 : cells ≤ 609290 ∧ slots ≤ 7268235 := ⟨by omega, by omega⟩
  have hP : va_P G vwCl (cat [[(h, .inr (5, [.ref (Ad 0), .ref (At 0), .ref (As 0), .ref (Ac 0), .ref (L 6 0)]))], dyW cyI Ad D, dyW cyI At T, shW cyI As S, ctW cyI Ac C, hiW cyI cyO L V, mdW cyI Am M, [(ao, .inl (cyJ, 1, .inr (.inl (f))))]]) H := hP
  have hD : va_D A9 (cat [[(h, .inr (5, [.ref (Ad 0), .ref (At 0), .ref (As 0), .ref (Ac 0), .ref (L 6 0)]))], dyW cyI Ad D, dyW cyI At T, shW cyI As S, ctW cyI Ac C, hiW cyI cyO L V, mdW cyI Am M, [(ao, .inl (cyJ, 1, .inr (.inl (f))))]]) := hD
  refine lv_aload_n hx hb dL_law_860 rfl (lv_at hl 3 rfl) ?_
  refine lv_aload_n hx hb dL_law_861 rfl (lv_at hl 1 rfl) ?_
  obtain ⟨k, L', D', V', f', M', a', hM, hm, ⟨hth, hans⟩, hR'⟩ := s_callOff l G cyI cyO cyJ h Ad At As Ac Am ao L D T S C V M f  htr hR
  refine gHi (gs := [[(h, .inr (5, [.ref (Ad 0), .ref (At 0), .ref (As 0), .ref (Ac 0), .ref (L 6 0)]))], dyW cyI Ad D, dyW cyI At T, shW cyI As S, ctW cyI Ac C, hiW cyI cyO L V, mdW cyI Am M, [(ao, .inl (cyJ, 1, .inr (.inl (f))))]]) (As := [.ref (h), .ref (ao)]) (rest := []) ⟨hx, hb, hml, hown, hts⟩ hM (vx_cwSW 2 hts gL_law_L_callOff rfl rfl rfl (by decide +kernel) ⟨Nat.le_of_ble_eq_true rfl, Nat.le_of_ble_eq_true rfl⟩) hK hX hP hD hS hA [0, 1, 5, 7] rfl rfl rfl rfl hl.1 rfl (Nat.le_of_ble_eq_true rfl) dL_law_862 hcs (fun H locs hP hD hS => ?_)
  have hP : va_P G vwCl (cat [[(h, .inr (5, [.ref (Ad 0), .ref (At 0), .ref (As 0), .ref (Ac 0), .ref (L' 6 0)]))], dyW cyI Ad D', dyW cyI At T, shW cyI As S, ctW cyI Ac C, hiW cyI cyO L' V', mdW cyI Am M, [(ao, .inl (cyJ, 1, .inr (.inl (f'))))]]) H := hP
  have hD : va_D A9 (cat [[(h, .inr (5, [.ref (Ad 0), .ref (At 0), .ref (As 0), .ref (Ac 0), .ref (L' 6 0)]))], dyW cyI Ad D', dyW cyI At T, shW cyI As S, ctW cyI Ac C, hiW cyI cyO L' V', mdW cyI Am M, [(ao, .inl (cyJ, 1, .inr (.inl (f'))))]]) := hD
  refine lv_istore (lv' := [(5, .int (k)), (4, .int (nI (i))), (3, .ref (ao)), (2, .ref (Am 0)), (1, .ref (h)), (0, .ref (b))]) hx hb dL_law_865 hl (by decide) rfl (fun ls hl => ?_)
  refine lv_aload_n hx hb dL_law_867 rfl (lv_at hl 3 rfl) ?_
  refine gVi (gs := [[(h, .inr (5, [.ref (Ad 0), .ref (At 0), .ref (As 0), .ref (Ac 0), .ref (L' 6 0)]))], dyW cyI Ad D', dyW cyI At T, shW cyI As S, ctW cyI Ac C, hiW cyI cyO L' V', mdW cyI Am M, [(ao, .inl (cyJ, 1, .inr (.inl (f'))))]]) (As := []) (rest := []) ⟨hx, hb, hml, hown, hts⟩ hm (cwV 0 hts gL_law_X6_callOff rfl rfl rfl (by decide +kernel) ⟨Nat.le_of_ble_eq_true rfl, Nat.le_of_ble_eq_true rfl⟩) hK2 hP hD hS hA [6] rfl rfl rfl 0 6 rfl rfl rfl hl.1 rfl (Nat.le_of_ble_eq_true rfl) dL_law_868 hcs (fun H locs hP hD hS => ?_)
  have hP : va_P G vwCl (cat [[(h, .inr (5, [.ref (Ad 0), .ref (At 0), .ref (As 0), .ref (Ac 0), .ref (L' 6 0)]))], dyW cyI Ad D', dyW cyI At T, shW cyI As S, ctW cyI Ac C, hiW cyI cyO L' V', mdW cyI Am M', [(ao, .inl (cyJ, 1, .inr (.inl (f'))))]]) H := hP
  have hD : va_D A9 (cat [[(h, .inr (5, [.ref (Ad 0), .ref (At 0), .ref (As 0), .ref (Ac 0), .ref (L' 6 0)]))], dyW cyI Ad D', dyW cyI At T, shW cyI As S, ctW cyI Ac C, hiW cyI cyO L' V', mdW cyI Am M', [(ao, .inl (cyJ, 1, .inr (.inl (f'))))]]) := hD
  refine lv_istore (lv' := [(6, .int (a')), (5, .int (k)), (4, .int (nI (i))), (3, .ref (ao)), (2, .ref (Am 0)), (1, .ref (h)), (0, .ref (b))]) hx hb dL_law_871 hl (by decide) rfl (fun ls hl => ?_)
  refine lv_aload_n hx hb dL_law_873 rfl (lv_at hl 4 rfl) ?_
  refine gVi (gs := [[(h, .inr (5, [.ref (Ad 0), .ref (At 0), .ref (As 0), .ref (Ac 0), .ref (L' 6 0)]))], dyW cyI Ad D', dyW cyI At T, shW cyI As S, ctW cyI Ac C, hiW cyI cyO L' V', mdW cyI Am M', [(ao, .inl (cyJ, 1, .inr (.inl (f'))))]]) (As := []) (rest := []) ⟨hx, hb, hml, hown, hts⟩ (c_X6_thrown l G cyI cyO Am M') (cwV 0 hts gL_law_X6_thrown rfl rfl rfl (by decide +kernel) ⟨Nat.le_of_ble_eq_true rfl, Nat.le_of_ble_eq_true rfl⟩) hK2 hP hD hS hA [6] rfl rfl rfl 0 6 rfl rfl rfl hl.1 rfl (Nat.le_of_ble_eq_true rfl) dL_law_874 hcs (fun H locs hP hD hS => ?_)
  have hP : va_P G vwCl (cat [[(h, .inr (5, [.ref (Ad 0), .ref (At 0), .ref (As 0), .ref (Ac 0), .ref (L' 6 0)]))], dyW cyI Ad D', dyW cyI At T, shW cyI As S, ctW cyI Ac C, hiW cyI cyO L' V', mdW cyI Am M', [(ao, .inl (cyJ, 1, .inr (.inl (f'))))]]) H := hP
  have hD : va_D A9 (cat [[(h, .inr (5, [.ref (Ad 0), .ref (At 0), .ref (As 0), .ref (Ac 0), .ref (L' 6 0)]))], dyW cyI Ad D', dyW cyI At T, shW cyI As S, ctW cyI Ac C, hiW cyI cyO L' V', mdW cyI Am M', [(ao, .inl (cyJ, 1, .inr (.inl (f'))))]]) := hD
  refine top_i (x' := k) hth ?_
  refine lv_iload hx hb dL_law_877 (lv_at hl 1 rfl) ?_
  refine lv_icmp_eq (tgt := 884) hx hb dL_law_879 (by decide) (fun c_879 => ?_) (fun c_879 => ?_)
  · refine lv_iload hx hb dL_law_884 (lv_at hl 1 rfl) ?_
    refine lv_if_ne (tgt := 901) hx hb dL_law_886 (by decide) (fun c_886 => ?_) (fun c_886 => ?_)
    · refine lv_goto (tgt := 1444) hx hb dL_law_901 (by decide) ?_
      exact kk _ _ _ ⟨L', D', T, S, C, V', M', f', hP, hD, hS, lv_sub hl [2, 3, 4, 5, 6] rfl, hR'⟩
    · refine lv_aload_n hx hb dL_law_889 rfl (lv_at hl 3 rfl) ?_
      refine lv_iconst (v := (0 : Int32)) hx hb dL_law_890 (by decide) ?_
      refine va_lald (f := f') hx hb hK hP 115 2 rfl rfl in01 dL_law_891 ?_
      refine top_l (x' := f' 0) rfl ?_
      refine top_l (x' := a'.toInt64) (hans c_886) ?_
      refine lv_iload hx hb dL_law_892 (lv_at hl 0 rfl) ?_
      refine lv_i2l (v := a'.toInt64) hx hb dL_law_894 rfl ?_
      refine W.lcmp hx hb dL_law_895 ?_
      refine lv_if_eq (tgt := 901) hx hb dL_law_896 (by decide) (fun c_896 => ?_) (fun c_896 => ?_)
      · refine lv_goto (tgt := 1444) hx hb dL_law_901 (by decide) ?_
        exact kk _ _ _ ⟨L', D', T, S, C, V', M', f', hP, hD, hS, lv_sub hl [2, 3, 4, 5, 6] rfl, hR'⟩
      · exact absurd (lg_self _) c_896
  · exact absurd rfl c_879
set_option maxHeartbeats 4000000 in
set_option maxRecDepth 100000 in
theorem law_handover {p9 : Program} {l : Launch} {e9 : Env} {s9 : State} {m9 : MethodId} {b9 : List Frame} {t9 : Method} {c9 : Code} {A9 : Nat → Prop} {G : va_G} {cyI cyO cyJ : ClassId} {b Ln : Nat} {xs : Nat → Int32} {Q : State → Prop} {h : Nat} {Ad At As Ac Am : Nat → Nat} {ao i cells slots : Nat} {H : Heap} {locs : List Loc} {ls : Array Slot} (hC : LC p9 l s9 m9 c9 A9 G cyI cyO cyJ b Ln xs) (hi : i + 2 < Ln) (hLn : Ln ≤ 1536) (hcs : cells + 1 ≤ 609290 ∧ slots + 6 ≤ 7268235) (hJ : LJ G cyI cyO cyJ s9 A9 b h Ad At As Ac Am ao i H locs ls)
    (kk : ∀ (H : Heap) (locs : List Loc) (ls : Array Slot), LJ G cyI cyO cyJ s9 A9 b h Ad At As Ac Am ao i H locs ls → W p9 l e9 room_1 s9 m9 #[Value.ref b] b9 t9 c9 H locs (cells + 1) (slots + 6) Q (F0 m9 1444 ls [])) :
    W p9 l e9 room_1 s9 m9 #[Value.ref b] b9 t9 c9 H locs cells slots Q (F0 m9 904 ls []) := by
  obtain ⟨hx, hb, hml, hown, hts, hscr, hbl, hbA, hA, hK, hX, htr⟩ := hC
  obtain ⟨L, D, T, S, C, V, M, f, hP, hD, hS, hl, hR⟩ := hJ
  have hK2 := hK.sub [0, 1] (tys' := TY cyI cyO) rfl
  have hcs0 : cells ≤ 609290 ∧ slots ≤ 7268235 := ⟨by omega, by omega⟩
  have hP : va_P G vwCl (cat [[(h, .inr (5, [.ref (Ad 0), .ref (At 0), .ref (As 0), .ref (Ac 0), .ref (L 6 0)]))], dyW cyI Ad D, dyW cyI At T, shW cyI As S, ctW cyI Ac C, hiW cyI cyO L V, mdW cyI Am M, [(ao, .inl (cyJ, 1, .inr (.inl (f))))]]) H := hP
  have hD : va_D A9 (cat [[(h, .inr (5, [.ref (Ad 0), .ref (At 0), .ref (As 0), .ref (Ac 0), .ref (L 6 0)]))], dyW cyI Ad D, dyW cyI At T, shW cyI As S, ctW cyI Ac C, hiW cyI cyO L V, mdW cyI Am M, [(ao, .inl (cyJ, 1, .inr (.inl (f))))]]) := hD
  refine lv_aload_n hx hb dL_law_904 rfl (lv_at hl 3 rfl) ?_
  obtain ⟨r, M', hM, hm, hR'⟩ := q_handover l G cyI cyO h Ad At As Ac Am L D T S C V M hR
  refine gVi (gs := [[(h, .inr (5, [.ref (Ad 0), .ref (At 0), .ref (As 0), .ref (Ac 0), .ref (L 6 0)]))], dyW cyI Ad D, dyW cyI At T, shW cyI As S, ctW cyI Ac C, hiW cyI cyO L V, mdW cyI Am M, [(ao, .inl (cyJ, 1, .inr (.inl (f))))]]) (As := []) (rest := []) ⟨hx, hb, hml, hown, hts⟩ hM (cwV 0 hts gL_law_X5_handover rfl rfl rfl (by decide +kernel) ⟨Nat.le_of_ble_eq_true rfl, Nat.le_of_ble_eq_true rfl⟩) hK2 hP hD hS hA [0, 1] rfl rfl rfl 0 5 rfl rfl rfl hl.1 rfl (Nat.le_of_ble_eq_true rfl) dL_law_905 hcs0 (fun H locs hP hD hS => ?_)
  have hP : va_P G vwCl (cat [[(h, .inr (5, [.ref (Ad 0), .ref (At 0), .ref (As 0), .ref (Ac 0), .ref (L 6 0)]))], dyW cyI Ad D, dyW cyI At T, shW cyI As S, ctW cyI Ac C, hiW cyI cyO L V, mdW cyI Am M, [(ao, .inl (cyJ, 1, .inr (.inl (f))))]]) H := hP
  have hD : va_D A9 (cat [[(h, .inr (5, [.ref (Ad 0), .ref (At 0), .ref (As 0), .ref (Ac 0), .ref (L 6 0)]))], dyW cyI Ad D, dyW cyI At T, shW cyI As S, ctW cyI Ac C, hiW cyI cyO L V, mdW cyI Am M, [(ao, .inl (cyJ, 1, .inr (.inl (f))))]]) := hD
  refine lv_aload_n hx hb dL_law_908 rfl (lv_at hl 2 rfl) ?_
  refine gVi (gs := [[(h, .inr (5, [.ref (Ad 0), .ref (At 0), .ref (As 0), .ref (Ac 0), .ref (L 6 0)]))], dyW cyI Ad D, dyW cyI At T, shW cyI As S, ctW cyI Ac C, hiW cyI cyO L V, mdW cyI Am M, [(ao, .inl (cyJ, 1, .inr (.inl (f))))]]) (As := []) (rest := [.int (r)]) ⟨hx, hb, hml, hown, hts⟩ hm (cwV 0 hts gL_law_X6_handover rfl rfl rfl (by decide +kernel) ⟨Nat.le_of_ble_eq_true rfl, Nat.le_of_ble_eq_true rfl⟩) hK2 hP hD hS hA [6] rfl rfl rfl 0 6 rfl rfl rfl hl.1 rfl (Nat.le_of_ble_eq_true rfl) dL_law_909 hcs0 (fun H locs hP hD hS => ?_)
  have hP : va_P G vwCl (cat [[(h, .inr (5, [.ref (Ad 0), .ref (At 0), .ref (As 0), .ref (Ac 0), .ref (L 6 0)]))], dyW cyI Ad D, dyW cyI At T, shW cyI As S, ctW cyI Ac C, hiW cyI cyO L V, mdW cyI Am M', [(ao, .inl (cyJ, 1, .inr (.inl (f))))]]) H := hP
  have hD : va_D A9 (cat [[(h, .inr (5, [.ref (Ad 0), .ref (At 0), .ref (As 0), .ref (Ac 0), .ref (L 6 0)]))], dyW cyI Ad D, dyW cyI At T, shW cyI As S, ctW cyI Ac C, hiW cyI cyO L V, mdW cyI Am M', [(ao, .inl (cyJ, 1, .inr (.inl (f))))]]) := hD
  refine lv_icmp_eq (tgt := 1444) hx hb dL_law_912 (by decide) (fun c_912 => ?_) (fun c_912 => ?_)
  · refine W.widen (k := cells + 1) (n := slots + 6) (Nat.le_add_right _ _) (Nat.le_add_right _ _) ?_
    exact kk _ _ _ ⟨L, D, T, S, C, V, M', f, hP, hD, hS, lv_sub hl [0, 1, 2, 3, 4] rfl, hR'⟩
  · exact absurd rfl c_912
set_option maxHeartbeats 4000000 in
set_option maxRecDepth 100000 in
theorem law_planned {p9 : Program} {l : Launch} {e9 : Env} {s9 : State} {m9 : MethodId} {b9 : List Frame} {t9 : Method} {c9 : Code} {A9 : Nat → Prop} {G : va_G} {cyI cyO cyJ : ClassId} {b Ln : Nat} {xs : Nat → Int32} {Q : State → Prop} {h : Nat} {Ad At As Ac Am : Nat → Nat} {ao i cells slots : Nat} {H : Heap} {locs : List Loc} {ls : Array Slot} (hC : LC p9 l s9 m9 c9 A9 G cyI cyO cyJ b Ln xs) (hi : i + 2 < Ln) (hLn : Ln ≤ 1536) (hcs : cells + 1 ≤ 609290 ∧ slots + 6 ≤ 7268235) (hJ : LJ G cyI cyO cyJ s9 A9 b h Ad At As Ac Am ao i H locs ls)
    (kk : ∀ (H : Heap) (locs : List Loc) (ls : Array Slot), LJ G cyI cyO cyJ s9 A9 b h Ad At As Ac Am ao i H locs ls → W p9 l e9 room_1 s9 m9 #[Value.ref b] b9 t9 c9 H locs (cells + 1) (slots + 6) Q (F0 m9 1444 ls [])) :
    W p9 l e9 room_1 s9 m9 #[Value.ref b] b9 t9 c9 H locs cells slots Q (F0 m9 917 ls []) := by
  obtain ⟨hx, hb, hml, hown, hts, hscr, hbl, hbA, hA, hK, hX, htr⟩ := hC
  obtain ⟨L, D, T, S, C, V, M, f, hP, hD, hS, hl, hR⟩ := hJ
  have hK2 := hK.sub [0, 1] (tys' := TY cyI cyO) rfl
  have hcs0 : cells ≤ 609290 ∧ slots ≤ 7268235 := ⟨by omega, by omega⟩
  have hP : va_P G vwCl (cat [[(h, .inr (5, [.ref (Ad 0), .ref (At 0), .ref (As 0), .ref (Ac 0), .ref (L 6 0)]))], dyW cyI Ad D, dyW cyI At T, shW cyI As S, ctW cyI Ac C, hiW cyI cyO L V, mdW cyI Am M, [(ao, .inl (cyJ, 1, .inr (.inl (f))))]]) H := hP
  have hD : va_D A9 (cat [[(h, .inr (5, [.ref (Ad 0), .ref (At 0), .ref (As 0), .ref (Ac 0), .ref (L 6 0)]))], dyW cyI Ad D, dyW cyI At T, shW cyI As S, ctW cyI Ac C, hiW cyI cyO L V, mdW cyI Am M, [(ao, .inl (cyJ, 1, .inr (.inl (f))))]]) := hD
  refine lv_aload_n hx hb dL_law_917 rfl (lv_at hl 3 rfl) ?_
  refine lv_aload_n hx hb dL_law_918 rfl (lv_at hl 4 rfl) ?_
  refine lv_iload hx hb dL_law_919 (lv_at hl 0 rfl) ?_
  refine lv_iconst (v := (1 : Int32)) hx hb dL_law_921 (by decide) ?_
  refine lv_iadd hx hb dL_law_922 ?_
  refine top_i (x' := nI (i + 1)) (nI_add (i) (1)) ?_
  refine va_sld hx hb hscr hbl hbA hS (vp_in_nI (n := i + 1) (by omega) (by omega)) dL_law_923 ?_
  refine top_i (x' := xs (i + 1)) (by rw [nI_clamp (by omega)]) ?_
  refine lv_aload_n hx hb dL_law_924 rfl (lv_at hl 1 rfl) ?_
  obtain ⟨k, D', f', M', a', hM, hm, ⟨hth, hans⟩, hR'⟩ := s_planned l G cyI cyO cyJ h Ad At As Ac Am ao L D T S C V M f (xs (i + 1)) htr hR
  refine gHi (gs := [[(h, .inr (5, [.ref (Ad 0), .ref (At 0), .ref (As 0), .ref (Ac 0), .ref (L 6 0)]))], dyW cyI Ad D, dyW cyI At T, shW cyI As S, ctW cyI Ac C, hiW cyI cyO L V, mdW cyI Am M, [(ao, .inl (cyJ, 1, .inr (.inl (f))))]]) (As := [.ref (h), .int (xs (i + 1)), .ref (ao)]) (rest := []) ⟨hx, hb, hml, hown, hts⟩ hM (vx_cwSW 3 hts gL_law_L_planned rfl rfl rfl (by decide +kernel) ⟨Nat.le_of_ble_eq_true rfl, Nat.le_of_ble_eq_true rfl⟩) hK hX hP hD hS hA [0, 1, 7] rfl rfl rfl rfl hl.1 rfl (Nat.le_of_ble_eq_true rfl) dL_law_925 hcs (fun H locs hP hD hS => ?_)
  have hP : va_P G vwCl (cat [[(h, .inr (5, [.ref (Ad 0), .ref (At 0), .ref (As 0), .ref (Ac 0), .ref (L 6 0)]))], dyW cyI Ad D', dyW cyI At T, shW cyI As S, ctW cyI Ac C, hiW cyI cyO L V, mdW cyI Am M, [(ao, .inl (cyJ, 1, .inr (.inl (f'))))]]) H := hP
  have hD : va_D A9 (cat [[(h, .inr (5, [.ref (Ad 0), .ref (At 0), .ref (As 0), .ref (Ac 0), .ref (L 6 0)]))], dyW cyI Ad D', dyW cyI At T, shW cyI As S, ctW cyI Ac C, hiW cyI cyO L V, mdW cyI Am M, [(ao, .inl (cyJ, 1, .inr (.inl (f'))))]]) := hD
  refine lv_istore (lv' := [(5, .int (k)), (4, .int (nI (i))), (3, .ref (ao)), (2, .ref (Am 0)), (1, .ref (h)), (0, .ref (b))]) hx hb dL_law_928 hl (by decide) rfl (fun ls hl => ?_)
  refine lv_aload_n hx hb dL_law_930 rfl (lv_at hl 3 rfl) ?_
  refine lv_aload_n hx hb dL_law_931 rfl (lv_at hl 5 rfl) ?_
  refine lv_iload hx hb dL_law_932 (lv_at hl 1 rfl) ?_
  refine lv_iconst (v := (1 : Int32)) hx hb dL_law_934 (by decide) ?_
  refine lv_iadd hx hb dL_law_935 ?_
  refine top_i (x' := nI (i + 1)) (nI_add (i) (1)) ?_
  refine va_sld hx hb hscr hbl hbA hS (vp_in_nI (n := i + 1) (by omega) (by omega)) dL_law_936 ?_
  refine top_i (x' := xs (i + 1)) (by rw [nI_clamp (by omega)]) ?_
  refine gVi (gs := [[(h, .inr (5, [.ref (Ad 0), .ref (At 0), .ref (As 0), .ref (Ac 0), .ref (L 6 0)]))], dyW cyI Ad D', dyW cyI At T, shW cyI As S, ctW cyI Ac C, hiW cyI cyO L V, mdW cyI Am M, [(ao, .inl (cyJ, 1, .inr (.inl (f'))))]]) (As := [.int (xs (i + 1))]) (rest := []) ⟨hx, hb, hml, hown, hts⟩ hm (cwV 1 hts gL_law_X6_planned rfl rfl rfl (by decide +kernel) ⟨Nat.le_of_ble_eq_true rfl, Nat.le_of_ble_eq_true rfl⟩) hK2 hP hD hS hA [6] rfl rfl rfl 0 6 rfl rfl rfl hl.1 rfl (Nat.le_of_ble_eq_true rfl) dL_law_937 hcs (fun H locs hP hD hS => ?_)
  have hP : va_P G vwCl (cat [[(h, .inr (5, [.ref (Ad 0), .ref (At 0), .ref (As 0), .ref (Ac 0), .ref (L 6 0)]))], dyW cyI Ad D', dyW cyI At T, shW cyI As S, ctW cyI Ac C, hiW cyI cyO L V, mdW cyI Am M', [(ao, .inl (cyJ, 1, .inr (.inl (f'))))]]) H := hP
  have hD : va_D A9 (cat [[(h, .inr (5, [.ref (Ad 0), .ref (At 0), .ref (As 0), .ref (Ac 0), .ref (L 6 0)]))], dyW cyI Ad D', dyW cyI At T, shW cyI As S, ctW cyI Ac C, hiW cyI cyO L V, mdW cyI Am M', [(ao, .inl (cyJ, 1, .inr (.inl (f'))))]]) := hD
  refine lv_istore (lv' := [(6, .int (a')), (5, .int (k)), (4, .int (nI (i))), (3, .ref (ao)), (2, .ref (Am 0)), (1, .ref (h)), (0, .ref (b))]) hx hb dL_law_940 hl (by decide) rfl (fun ls hl => ?_)
  refine lv_aload_n hx hb dL_law_942 rfl (lv_at hl 4 rfl) ?_
  refine gVi (gs := [[(h, .inr (5, [.ref (Ad 0), .ref (At 0), .ref (As 0), .ref (Ac 0), .ref (L 6 0)]))], dyW cyI Ad D', dyW cyI At T, shW cyI As S, ctW cyI Ac C, hiW cyI cyO L V, mdW cyI Am M', [(ao, .inl (cyJ, 1, .inr (.inl (f'))))]]) (As := []) (rest := []) ⟨hx, hb, hml, hown, hts⟩ (c_X6_thrown l G cyI cyO Am M') (cwV 0 hts gL_law_X6_thrown rfl rfl rfl (by decide +kernel) ⟨Nat.le_of_ble_eq_true rfl, Nat.le_of_ble_eq_true rfl⟩) hK2 hP hD hS hA [6] rfl rfl rfl 0 6 rfl rfl rfl hl.1 rfl (Nat.le_of_ble_eq_true rfl) dL_law_943 hcs (fun H locs hP hD hS => ?_)
  have hP : va_P G vwCl (cat [[(h, .inr (5, [.ref (Ad 0), .ref (At 0), .ref (As 0), .ref (Ac 0), .ref (L 6 0)]))], dyW cyI Ad D', dyW cyI At T, shW cyI As S, ctW cyI Ac C, hiW cyI cyO L V, mdW cyI Am M', [(ao, .inl (cyJ, 1, .inr (.inl (f'))))]]) H := hP
  have hD : va_D A9 (cat [[(h, .inr (5, [.ref (Ad 0), .ref (At 0), .ref (As 0), .ref (Ac 0), .ref (L 6 0)]))], dyW cyI Ad D', dyW cyI At T, shW cyI As S, ctW cyI Ac C, hiW cyI cyO L V, mdW cyI Am M', [(ao, .inl (cyJ, 1, .inr (.inl (f'))))]]) := hD
  refine top_i (x' := k) hth ?_
  refine lv_iload hx hb dL_law_946 (lv_at hl 1 rfl) ?_
  refine lv_icmp_eq (tgt := 953) hx hb dL_law_948 (by decide) (fun c_948 => ?_) (fun c_948 => ?_)
  · refine lv_iload hx hb dL_law_953 (lv_at hl 1 rfl) ?_
    refine lv_if_ne (tgt := 970) hx hb dL_law_955 (by decide) (fun c_955 => ?_) (fun c_955 => ?_)
    · refine lv_goto (tgt := 1444) hx hb dL_law_970 (by decide) ?_
      exact kk _ _ _ ⟨L, D', T, S, C, V, M', f', hP, hD, hS, lv_sub hl [2, 3, 4, 5, 6] rfl, hR'⟩
    · refine lv_aload_n hx hb dL_law_958 rfl (lv_at hl 3 rfl) ?_
      refine lv_iconst (v := (0 : Int32)) hx hb dL_law_959 (by decide) ?_
      refine va_lald (f := f') hx hb hK hP 115 2 rfl rfl in01 dL_law_960 ?_
      refine top_l (x' := f' 0) rfl ?_
      refine top_l (x' := a'.toInt64) (hans c_955) ?_
      refine lv_iload hx hb dL_law_961 (lv_at hl 0 rfl) ?_
      refine lv_i2l (v := a'.toInt64) hx hb dL_law_963 rfl ?_
      refine W.lcmp hx hb dL_law_964 ?_
      refine lv_if_eq (tgt := 970) hx hb dL_law_965 (by decide) (fun c_965 => ?_) (fun c_965 => ?_)
      · refine lv_goto (tgt := 1444) hx hb dL_law_970 (by decide) ?_
        exact kk _ _ _ ⟨L, D', T, S, C, V, M', f', hP, hD, hS, lv_sub hl [2, 3, 4, 5, 6] rfl, hR'⟩
      · exact absurd (lg_self _) c_965
  · exact absurd rfl c_948

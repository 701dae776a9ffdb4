/-! ===== one call on both sides ===== -/
def RR (D : DS) (V : HS) (C : TS) (M : MS) : Prop := RD D M.2.1 ∧ RV V M.2.2.1 M.2.2.2.1 ∧ RT C M.2.2.2.2.1 M.2.2.2.2.2.1
def SP (k : Int32) (f : Nat → Int64) (a : Int32) (M : MS) : Prop := M.1 = k ∧ (k = 0 → f 0 = a.toInt64)
abbrev oO (h : Nat) (Ad At As Ac : Nat → Nat) (L : Nat → Nat → Nat) : va_W := [(h, .inr (5, [.ref (Ad 0), .ref (At 0), .ref (As 0), .ref (Ac 0), .ref (L 6 0)]))]
abbrev oF (cyJ : ClassId) (ao : Nat) (f : Nat → Int64) : va_W := [(ao, .inl (cyJ, 1, .inr (.inl f)))]
theorem RR.v6 {D : DS} {V : HS} {C : TS} {M : MS} (h : RR D V C M) : V.1 ≤ 6 := by rw [h.2.1.1]; exact h.2.1.2.1
theorem RR.s6 {D : DS} {V : HS} {C : TS} {M : MS} (h : RR D V C M) : M.2.2.2.1 ≤ 6 := h.2.1.2.1
theorem RR.c60 {D : DS} {V : HS} {C : TS} {M : MS} (h : RR D V C M) : C.2 ≤ 60 := by rw [h.2.2.1]; exact h.2.2.2.1
theorem RR.l60 {D : DS} {V : HS} {C : TS} {M : MS} (h : RR D V C M) : M.2.2.2.2.2.1 ≤ 60 := h.2.2.2.1
theorem RR.n20 {D : DS} {V : HS} {C : TS} {M : MS} (h : RR D V C M) : D.2.2.2.2.2.1 ≤ 20 := h.1.n20
theorem mDo_0 {M M2 : MS} {t w : Int32} (ht : t = 0) : mDo M t w M2 = (M2, w) := by rw [ht]; exact if_pos (by decide)
theorem mDo_1 {M M2 : MS} {t w : Int32} (ht : t = 1) : mDo M t w M2 = (mT M 1, 0) := by rw [ht]; exact if_neg (by decide)
theorem mDo_2 {M M2 : MS} {t w : Int32} (ht : t = 2) : mDo M t w M2 = (mT M 2, 0) := by rw [ht]; exact if_neg (by decide)
theorem dig19 {x : Int32} (h : isDig x 1 9 = true) : ∃ p, 1 ≤ p ∧ p ≤ 9 ∧ x = nI p := dig_p h
theorem updL_0 (f : Nat → Int64) (x : Int64) : vp_updL f 0 x 0 = x := if_pos rfl
/-- the state is saved, then it is another one -/
theorem RR.save {D D2 : DS} {V : HS} {C : TS} {M : MS} {z2 : Nat → Int32} (h : RR D V C M) (t : Int32) (h2 : RD D2 z2) : RR D2 (svS V D) C (mZ (mRecS (mT M t)) z2) := ⟨h2, h.2.1.save h.1, h.2.2⟩
theorem RR.mt {D : DS} {V : HS} {C : TS} {M : MS} (h : RR D V C M) (t : Int32) : RR D V C (mT M t) := h
theorem no_1 {z : Nat → Int32} {n : Nat} {x : Int32} (h : isDig x 1 9 = false) : mNoAdd z n x = 1 := by unfold mNoAdd; rw [h]; exact if_neg (by decide)
theorem noc_1 {z : Nat → Int32} {x : Int32} (h : isDig x 0 5 = false) : mNoCome z x = 1 ∧ mNoLeave z x = 1 := by unfold mNoCome mNoLeave; rw [h]; exact ⟨if_neg (by decide), if_neg (by decide)⟩
/-- what sharing out leaves alone -/
def SameR (M M2 : MS) : Prop := M2.1 = M.1 ∧ M2.2.2.1 = M.2.2.1 ∧ M2.2.2.2.1 = M.2.2.2.1 ∧ M2.2.2.2.2.1 = M.2.2.2.2.1 ∧ M2.2.2.2.2.2.1 = M.2.2.2.2.2.1
theorem SameR.rv {M M2 : MS} {V : HS} (h : SameR M M2) (hv : RV V M.2.2.1 M.2.2.2.1) : RV V M2.2.2.1 M2.2.2.2.1 := by rw [h.2.1, h.2.2.1]; exact hv
theorem SameR.rt {M M2 : MS} {C : TS} (h : SameR M M2) (hv : RT C M.2.2.2.2.1 M.2.2.2.2.2.1) : RT C M2.2.2.2.2.1 M2.2.2.2.2.2.1 := by rw [h.2.2.2.1, h.2.2.2.2]; exact hv
theorem SameR.rf (M : MS) : SameR M M := ⟨rfl, rfl, rfl, rfl, rfl⟩
theorem SameR.tr {M M2 M3 : MS} (h : SameR M M2) (h2 : SameR M2 M3) : SameR M M3 := ⟨h2.1.trans h.1, h2.2.1.trans h.2.1, h2.2.2.1.trans h.2.2.1, h2.2.2.2.1.trans h.2.2.2.1, h2.2.2.2.2.trans h.2.2.2.2⟩
theorem mSh_rest (M : MS) (n : Nat) : SameR M (mSh M n) := by unfold mSh; split <;> exact ⟨rfl, rfl, rfl, rfl, rfl⟩
theorem mRea_rest (M : MS) (n k : Nat) : SameR M (mRea M n k) := by unfold mRea; split; exact SameR.rf M; split; exact mSh_rest M n; exact SameR.rf M
theorem mChB_rest (M : MS) (n k : Nat) : SameR M (mChB M n k).1 := by
  unfold mChB
  split
  · exact mSh_rest (mZ M (dlAll n (nI k) (upd M.2.1 (81 + k) 0))) n
  · exact mSh_rest (mZ M (upd M.2.1 (81 + k) 1)) n
theorem s_addDoorstep (l : Launch) (G : va_G) (cyI cyO cyJ : ClassId) (h : Nat) (Ad At As Ac Am : Nat → Nat) (ao : Nat) (L : Nat → Nat → Nat) (D T : DS) (S : SS) (C : TS) (V : HS) (M : MS) (f : Nat → Int64) (x : Int32) (htr : l.stackTraces = false) (hR : RR D V C M) :
    ∃ (k : Int32) (L' : Nat → Nat → Nat) (D' : DS) (V' : HS) (f' : Nat → Int64) (M' : MS) (a' : Int32), CH l G (TY3 cyI cyO cyJ) yL_addDoorstep wsL_addDoorstep rh_L_addDoorstep [.ref h, .int x, .ref ao] [oO h Ad At As Ac L, dyW cyI Ad D, hiW cyI cyO L V, oF cyJ ao f] k [oO h Ad At As Ac L', dyW cyI Ad D', hiW cyI cyO L' V', oF cyJ ao f'] ∧ CI l G (TY cyI cyO) yX6_addDoorstep wsX6_addDoorstep rm_X6_addDoorstep [.ref (Am 0), .int x] [mdW cyI Am M] a' [mdW cyI Am M'] ∧ SP k f' a' M' ∧ RR D' V' C M' := by
  have hn := hR.n20
  have hV := hR.v6
  have hC := hR.c60
  have hMI := hR.1.1.mi
  have hc := c_X6_addDoorstep l G cyI cyO Am M _ hMI x hR.s6
  cases hd : isDig x 1 9 with
  | false =>
    rw [mDo_1 (no_1 hd)] at hc
    dsimp only at hc
    exact ⟨1, L, D, V, f, _, _, t_L_addDoorstep_IA l G cyI cyO cyJ h Ad At As Ac L D x hd V ao f htr, hc, ⟨rfl, fun h => by cases h⟩, hR.mt 1⟩
  | true =>
    obtain ⟨p, h1, h9, rfl⟩ := dig19 hd
    have hno := hR.1.noAdd ⟨h1, h9⟩
    cases hm : (!dHO D && decide (D.2.2.2.2.2.1 < 20)) with
    | false =>
      rw [hm, if_neg (by decide)] at hno
      rw [mDo_2 hno] at hc
      dsimp only at hc
      exact ⟨2, L, D, V, f, _, _, t_L_addDoorstep_IS l G cyI cyO cyJ h Ad At As Ac L D hn p h1 h9 hm V ao f htr, hc, ⟨rfl, fun h => by cases h⟩, hR.mt 2⟩
    | true =>
      rw [hm, if_pos rfl] at hno
      rw [mDo_0 hno, hno] at hc
      dsimp only at hc
      have hm2 : dHO D = false ∧ D.2.2.2.2.2.1 < 20 := by simpa using hm
      exact ⟨0, svM L V, _, _, vp_updL f 0 _, _, _, n_L_addDoorstep l G cyI cyO cyJ h Ad At As Ac L D V hn hV p h1 h9 hm ao f, hc, ⟨rfl, fun _ => updL_0 _ _⟩, hR.save 0 (hR.1.add (hR.1.ho0.mp hm2.1) hm2.2 ⟨h1, h9⟩)⟩

theorem s_removeDoorstep (l : Launch) (G : va_G) (cyI cyO cyJ : ClassId) (h : Nat) (Ad At As Ac Am : Nat → Nat) (ao : Nat) (L : Nat → Nat → Nat) (D T : DS) (S : SS) (C : TS) (V : HS) (M : MS) (f : Nat → Int64) (x : Int32) (htr : l.stackTraces = false) (hR : RR D V C M) :
    ∃ (k : Int32) (L' : Nat → Nat → Nat) (D' : DS) (V' : HS) (f' : Nat → Int64) (M' : MS) (a' : Int32), CH l G (TY3 cyI cyO cyJ) yL_removeDoorstep wsL_removeDoorstep rh_L_removeDoorstep [.ref h, .int x, .ref ao] [oO h Ad At As Ac L, dyW cyI Ad D, hiW cyI cyO L V, oF cyJ ao f] k [oO h Ad At As Ac L', dyW cyI Ad D', hiW cyI cyO L' V', oF cyJ ao f'] ∧ CI l G (TY cyI cyO) yX6_removeDoorstep wsX6_removeDoorstep rm_X6_removeDoorstep [.ref (Am 0), .int x] [mdW cyI Am M] a' [mdW cyI Am M'] ∧ SP k f' a' M' ∧ RR D' V' C M' := by
  have hn := hR.n20
  have hV := hR.v6
  have hC := hR.c60
  have hMI := hR.1.1.mi
  have hc := c_X6_removeDoorstep l G cyI cyO Am M _ hMI x hR.s6
  have hno := hR.1.noRem x
  cases hd : dHas D.2.2.2.2.2.1 x with
  | false =>
    rw [hd, if_neg (by decide)] at hno
    rw [mDo_1 hno] at hc
    dsimp only at hc
    exact ⟨1, L, D, V, f, _, _, t_L_removeDoorstep_IO l G cyI cyO cyJ h Ad At As Ac L D hn x hd V ao f htr, hc, ⟨rfl, fun h => by cases h⟩, hR.mt 1⟩
  | true =>
    obtain ⟨q, hq, rfl⟩ := dHas_nat hn hd
    rw [hd, if_pos rfl] at hno
    cases hm : dHO D with
    | true =>
      rw [hm, if_pos rfl] at hno
      rw [mDo_2 hno] at hc
      dsimp only at hc
      exact ⟨2, L, D, V, f, _, _, t_L_removeDoorstep_IS l G cyI cyO cyJ h Ad At As Ac L D hn q hq hm V ao f htr, hc, ⟨rfl, fun h => by cases h⟩, hR.mt 2⟩
    | false =>
      rw [hm, if_neg (by decide)] at hno
      rw [mDo_0 hno, hno, nI_clamp (by omega)] at hc
      dsimp only at hc
      exact ⟨0, svM L V, _, _, vp_updL f 0 _, _, _, n_L_removeDoorstep l G cyI cyO cyJ h Ad At As Ac L D V hn hV q hq hm ao f, hc, ⟨rfl, fun _ => by rw [updL_0, (hR.1.2.1 q hq).2]⟩, hR.save 0 (hR.1.rem (hR.1.ho0.mp hm) hq)⟩

theorem s_setPints (l : Launch) (G : va_G) (cyI cyO cyJ : ClassId) (h : Nat) (Ad At As Ac Am : Nat → Nat) (ao : Nat) (L : Nat → Nat → Nat) (D T : DS) (S : SS) (C : TS) (V : HS) (M : MS) (f : Nat → Int64) (x : Int32) (y : Int32) (htr : l.stackTraces = false) (hR : RR D V C M) :
    ∃ (k : Int32) (L' : Nat → Nat → Nat) (D' : DS) (V' : HS) (f' : Nat → Int64) (M' : MS) (a' : Int32), CH l G (TY3 cyI cyO cyJ) yL_setPints wsL_setPints rh_L_setPints [.ref h, .int x, .int y, .ref ao] [oO h Ad At As Ac L, dyW cyI Ad D, hiW cyI cyO L V, oF cyJ ao f] k [oO h Ad At As Ac L', dyW cyI Ad D', hiW cyI cyO L' V', oF cyJ ao f'] ∧ CI l G (TY cyI cyO) yX6_setPints wsX6_setPints rm_X6_setPints [.ref (Am 0), .int x, .int y] [mdW cyI Am M] a' [mdW cyI Am M'] ∧ SP k f' a' M' ∧ RR D' V' C M' := by
  have hn := hR.n20
  have hV := hR.v6
  have hC := hR.c60
  have hMI := hR.1.1.mi
  have hc := c_X6_setPints l G cyI cyO Am M _ hMI x y hR.s6
  unfold mSetP at hc
  rw [has_eq hn] at hc
  cases hd : dHas D.2.2.2.2.2.1 x with
  | false =>
    rw [hd, if_neg (by decide)] at hc
    exact ⟨1, L, D, V, f, _, _, t_L_setPints_IO l G cyI cyO cyJ h Ad At As Ac L D hn x hd y V ao f htr, hc, ⟨rfl, fun h => by cases h⟩, hR.mt 1⟩
  | true =>
    obtain ⟨q, hq, rfl⟩ := dHas_nat hn hd
    rw [hd, if_pos rfl] at hc
    cases he : isDig y 1 9 with
    | false =>
      rw [he, if_neg (by decide)] at hc
      exact ⟨2, L, D, V, f, _, _, t_L_setPints_IA l G cyI cyO cyJ h Ad At As Ac L D hn q hq y he V ao f htr, hc, ⟨rfl, fun h => by cases h⟩, hR.mt 2⟩
    | true =>
      obtain ⟨p, h1, h9, rfl⟩ := dig19 he
      rw [he, if_pos rfl, nI_clamp (by omega)] at hc
      exact ⟨0, svM L V, _, _, vp_updL f 0 _, _, _, n_L_setPints l G cyI cyO cyJ h Ad At As Ac L D V hn hV q hq p h1 h9 ao f, hc, ⟨rfl, fun _ => by rw [updL_0, (hR.1.2.1 q hq).1]⟩, hR.save 0 (hR.1.setp hq ⟨h1, h9⟩)⟩

theorem s_come (l : Launch) (G : va_G) (cyI cyO cyJ : ClassId) (h : Nat) (Ad At As Ac Am : Nat → Nat) (ao : Nat) (L : Nat → Nat → Nat) (D T : DS) (S : SS) (C : TS) (V : HS) (M : MS) (f : Nat → Int64) (x : Int32) (htr : l.stackTraces = false) (hR : RR D V C M) :
    ∃ (k : Int32) (L' : Nat → Nat → Nat) (D' : DS) (V' : HS) (f' : Nat → Int64) (M' : MS) (a' : Int32), CH l G (TY3 cyI cyO cyJ) yL_come wsL_come rh_L_come [.ref h, .int x, .ref ao] [oO h Ad At As Ac L, dyW cyI Ad D, hiW cyI cyO L V, oF cyJ ao f] k [oO h Ad At As Ac L', dyW cyI Ad D', hiW cyI cyO L' V', oF cyJ ao f'] ∧ CI l G (TY cyI cyO) yX6_come wsX6_come rm_X6_come [.ref (Am 0), .int x] [mdW cyI Am M] a' [mdW cyI Am M'] ∧ SP k f' a' M' ∧ RR D' V' C M' := by
  have hn := hR.n20
  have hV := hR.v6
  have hC := hR.c60
  have hMI := hR.1.1.mi
  have hc := c_X6_come l G cyI cyO Am M _ hMI x hR.s6
  cases hd : isDig x 0 5 with
  | false =>
    rw [mDo_1 (noc_1 hd).1] at hc
    dsimp only at hc
    exact ⟨1, L, D, V, f, _, _, t_L_come_IO l G cyI cyO cyJ h Ad At As Ac L D x hd V ao f htr, hc, ⟨rfl, fun h => by cases h⟩, hR.mt 1⟩
  | true =>
    obtain ⟨q, hq, rfl⟩ := dig_nat hd
    have hno := hR.1.noCome hq
    cases hm : (!dHO D && !decide (D.2.2.1 q = 1)) with
    | false =>
      rw [hm, if_neg (by decide)] at hno
      rw [mDo_2 hno] at hc
      dsimp only at hc
      exact ⟨2, L, D, V, f, _, _, t_L_come_IS l G cyI cyO cyJ h Ad At As Ac L D q hq hm V ao f htr, hc, ⟨rfl, fun h => by cases h⟩, hR.mt 2⟩
    | true =>
      rw [hm, if_pos rfl] at hno
      rw [mDo_0 hno, hno, nI_clamp (by omega)] at hc
      dsimp only at hc
      have hm2 : dHO D = false ∧ ¬ D.2.2.1 q = 1 := by simpa using hm
      refine ⟨0, svM L V, _, _, vp_updL f 0 _, _, _, n_L_come l G cyI cyO cyJ h Ad At As Ac L D V hn hV q hq hm ao f, hc, ⟨rfl, fun _ => ?_⟩, hR.save 0 (hR.1.come (hR.1.ho0.mp hm2.1) hq)⟩
      have e := (hR.1.rs.come hq).cw; show _ = (nI (cW (zW (upd M.2.1 (81 + q) 1)))).toInt64; rw [updL_0, e]; rfl

theorem s_leave (l : Launch) (G : va_G) (cyI cyO cyJ : ClassId) (h : Nat) (Ad At As Ac Am : Nat → Nat) (ao : Nat) (L : Nat → Nat → Nat) (D T : DS) (S : SS) (C : TS) (V : HS) (M : MS) (f : Nat → Int64) (x : Int32) (htr : l.stackTraces = false) (hR : RR D V C M) :
    ∃ (k : Int32) (L' : Nat → Nat → Nat) (D' : DS) (V' : HS) (f' : Nat → Int64) (M' : MS) (a' : Int32), CH l G (TY3 cyI cyO cyJ) yL_leave wsL_leave rh_L_leave [.ref h, .int x, .ref ao] [oO h Ad At As Ac L, dyW cyI Ad D, hiW cyI cyO L V, oF cyJ ao f] k [oO h Ad At As Ac L', dyW cyI Ad D', hiW cyI cyO L' V', oF cyJ ao f'] ∧ CI l G (TY cyI cyO) yX6_leave wsX6_leave rm_X6_leave [.ref (Am 0), .int x] [mdW cyI Am M] a' [mdW cyI Am M'] ∧ SP k f' a' M' ∧ RR D' V' C M' := by
  have hn := hR.n20
  have hV := hR.v6
  have hC := hR.c60
  have hMI := hR.1.1.mi
  have hc := c_X6_leave l G cyI cyO Am M _ hMI x hR.s6
  cases hd : isDig x 0 5 with
  | false =>
    rw [mDo_1 (noc_1 hd).2] at hc
    dsimp only at hc
    exact ⟨1, L, D, V, f, _, _, t_L_leave_IO l G cyI cyO cyJ h Ad At As Ac L D x hd V ao f htr, hc, ⟨rfl, fun h => by cases h⟩, hR.mt 1⟩
  | true =>
    obtain ⟨q, hq, rfl⟩ := dig_nat hd
    have hno := hR.1.noLeave hq
    cases hm : (!dHO D && decide (D.2.2.1 q = 1)) with
    | false =>
      rw [hm, if_neg (by decide)] at hno
      rw [mDo_2 hno] at hc
      dsimp only at hc
      exact ⟨2, L, D, V, f, _, _, t_L_leave_IS l G cyI cyO cyJ h Ad At As Ac L D q hq hm V ao f htr, hc, ⟨rfl, fun h => by cases h⟩, hR.mt 2⟩
    | true =>
      rw [hm, if_pos rfl] at hno
      rw [mDo_0 hno, hno, nI_clamp (by omega)] at hc
      dsimp only at hc
      have hm2 : dHO D = false ∧ D.2.2.1 q = 1 := by simpa using hm
      refine ⟨0, svM L V, _, _, vp_updL f 0 _, _, _, n_L_leave l G cyI cyO cyJ h Ad At As Ac L D V hn hV q hq hm ao f, hc, ⟨rfl, fun _ => ?_⟩, hR.save 0 (hR.1.leave (hR.1.ho0.mp hm2.1) hq)⟩
      have e := (ds_at (nI q) D.2.1 D.2.2.2.2.2.1).2; rw [updL_0, hR.1.rs.sz]; show (nI (itr D.2.2.2.2.2.1 (dsStep (nI q)) (D.2.1, 0)).2).toInt64 = _; rw [e]

theorem s_pints (l : Launch) (G : va_G) (cyI cyO cyJ : ClassId) (h : Nat) (Ad At As Ac Am : Nat → Nat) (ao : Nat) (L : Nat → Nat → Nat) (D T : DS) (S : SS) (C : TS) (V : HS) (M : MS) (f : Nat → Int64) (x : Int32) (htr : l.stackTraces = false) (hR : RR D V C M) :
    ∃ (k : Int32) (D' : DS) (f' : Nat → Int64) (M' : MS) (a' : Int32), CH l G (TY3 cyI cyO cyJ) yL_pints wsL_pints rh_L_pints [.ref h, .int x, .ref ao] [oO h Ad At As Ac L, dyW cyI Ad D, oF cyJ ao f] k [oO h Ad At As Ac L, dyW cyI Ad D', oF cyJ ao f'] ∧ CI l G (TY cyI cyO) yX6_pints wsX6_pints rm_X6_pints [.ref (Am 0), .int x] [mdW cyI Am M] a' [mdW cyI Am M'] ∧ SP k f' a' M' ∧ RR D' V C M' := by
  have hn := hR.n20
  have hV := hR.v6
  have hC := hR.c60
  have hMI := hR.1.1.mi
  have hc := c_X6_pints l G cyI cyO Am M _ hMI x
  unfold mQ at hc
  rw [has_eq hn] at hc
  cases hd : dHas D.2.2.2.2.2.1 x with
  | false =>
    rw [hd, if_neg (by decide)] at hc
    exact ⟨1, D, f, _, _, t_L_pints_IO l G cyI cyO cyJ h Ad At As Ac L D hn x hd ao f htr, hc, ⟨rfl, fun h => by cases h⟩, hR.mt 1⟩
  | true =>
    obtain ⟨q, hq, rfl⟩ := dHas_nat hn hd
    rw [hd, if_pos rfl, nI_clamp (by omega)] at hc
    refine ⟨0, _, vp_updL f 0 _, _, _, n_L_pints l G cyI cyO cyJ h Ad At As Ac L D hn q hq ao f, hc, ⟨rfl, fun _ => ?_⟩, hR.mt 0⟩
    rw [updL_0, (hR.1.2.1 q hq).1]

theorem s_owner (l : Launch) (G : va_G) (cyI cyO cyJ : ClassId) (h : Nat) (Ad At As Ac Am : Nat → Nat) (ao : Nat) (L : Nat → Nat → Nat) (D T : DS) (S : SS) (C : TS) (V : HS) (M : MS) (f : Nat → Int64) (x : Int32) (htr : l.stackTraces = false) (hR : RR D V C M) :
    ∃ (k : Int32) (D' : DS) (f' : Nat → Int64) (M' : MS) (a' : Int32), CH l G (TY3 cyI cyO cyJ) yL_owner wsL_owner rh_L_owner [.ref h, .int x, .ref ao] [oO h Ad At As Ac L, dyW cyI Ad D, oF cyJ ao f] k [oO h Ad At As Ac L, dyW cyI Ad D', oF cyJ ao f'] ∧ CI l G (TY cyI cyO) yX6_owner wsX6_owner rm_X6_owner [.ref (Am 0), .int x] [mdW cyI Am M] a' [mdW cyI Am M'] ∧ SP k f' a' M' ∧ RR D' V C M' := by
  have hn := hR.n20
  have hV := hR.v6
  have hC := hR.c60
  have hMI := hR.1.1.mi
  have hc := c_X6_owner l G cyI cyO Am M _ hMI x
  unfold mQ at hc
  rw [has_eq hn] at hc
  cases hd : dHas D.2.2.2.2.2.1 x with
  | false =>
    rw [hd, if_neg (by decide)] at hc
    exact ⟨1, D, f, _, _, t_L_owner_IO l G cyI cyO cyJ h Ad At As Ac L D hn x hd ao f htr, hc, ⟨rfl, fun h => by cases h⟩, hR.mt 1⟩
  | true =>
    obtain ⟨q, hq, rfl⟩ := dHas_nat hn hd
    rw [hd, if_pos rfl, nI_clamp (by omega)] at hc
    refine ⟨0, _, vp_updL f 0 _, _, _, n_L_owner l G cyI cyO cyJ h Ad At As Ac L D hn q hq ao f, hc, ⟨rfl, fun _ => ?_⟩, hR.mt 0⟩
    rw [updL_0, (hR.1.2.1 q hq).2]

theorem s_planned (l : Launch) (G : va_G) (cyI cyO cyJ : ClassId) (h : Nat) (Ad At As Ac Am : Nat → Nat) (ao : Nat) (L : Nat → Nat → Nat) (D T : DS) (S : SS) (C : TS) (V : HS) (M : MS) (f : Nat → Int64) (x : Int32) (htr : l.stackTraces = false) (hR : RR D V C M) :
    ∃ (k : Int32) (D' : DS) (f' : Nat → Int64) (M' : MS) (a' : Int32), CH l G (TY3 cyI cyO cyJ) yL_planned wsL_planned rh_L_planned [.ref h, .int x, .ref ao] [oO h Ad At As Ac L, dyW cyI Ad D, oF cyJ ao f] k [oO h Ad At As Ac L, dyW cyI Ad D', oF cyJ ao f'] ∧ CI l G (TY cyI cyO) yX6_planned wsX6_planned rm_X6_planned [.ref (Am 0), .int x] [mdW cyI Am M] a' [mdW cyI Am M'] ∧ SP k f' a' M' ∧ RR D' V C M' := by
  have hn := hR.n20
  have hV := hR.v6
  have hC := hR.c60
  have hMI := hR.1.1.mi
  have hc := c_X6_planned l G cyI cyO Am M _ hMI x
  unfold mQ at hc
  rw [has_eq hn] at hc
  cases hd : dHas D.2.2.2.2.2.1 x with
  | false =>
    rw [hd, if_neg (by decide)] at hc
    exact ⟨1, D, f, _, _, t_L_planned_IO l G cyI cyO cyJ h Ad At As Ac L D hn x hd ao f htr, hc, ⟨rfl, fun h => by cases h⟩, hR.mt 1⟩
  | true =>
    obtain ⟨q, hq, rfl⟩ := dHas_nat hn hd
    rw [hd, if_pos rfl, nI_clamp (by omega)] at hc
    refine ⟨0, _, vp_updL f 0 _, _, _, n_L_planned l G cyI cyO cyJ h Ad At As Ac L D hn q hq ao f, hc, ⟨rfl, fun _ => ?_⟩, hR.mt 0⟩
    rw [updL_0, plan_eq hR.1 hq]

theorem s_ifPlanned (l : Launch) (G : va_G) (cyI cyO cyJ : ClassId) (h : Nat) (Ad At As Ac Am : Nat → Nat) (ao : Nat) (L : Nat → Nat → Nat) (D T : DS) (S : SS) (C : TS) (V : HS) (M : MS) (f : Nat → Int64) (x : Int32) (htr : l.stackTraces = false) (hR : RR D V C M) :
    ∃ (k : Int32) (S' : SS) (D' : DS) (f' : Nat → Int64) (M' : MS) (a' : Int32), CH l G (TY3 cyI cyO cyJ) yL_ifPlanned wsL_ifPlanned rh_L_ifPlanned [.ref h, .int x, .ref ao] [oO h Ad At As Ac L, shW cyI As S, dyW cyI Ad D, oF cyJ ao f] k [oO h Ad At As Ac L, shW cyI As S', dyW cyI Ad D', oF cyJ ao f'] ∧ CI l G (TY cyI cyO) yX6_ifPlanned wsX6_ifPlanned rm_X6_ifPlanned [.ref (Am 0), .int x] [mdW cyI Am M] a' [mdW cyI Am M'] ∧ SP k f' a' M' ∧ RR D' V C M' := by
  have hn := hR.n20
  have hV := hR.v6
  have hC := hR.c60
  have hMI := hR.1.1.mi
  have hc := c_X6_ifPlanned l G cyI cyO Am M _ hMI x
  unfold mQ at hc
  rw [has_eq hn] at hc
  cases hd : dHas D.2.2.2.2.2.1 x with
  | false =>
    rw [hd, if_neg (by decide)] at hc
    exact ⟨1, S, D, f, _, _, t_L_ifPlanned_IO l G cyI cyO cyJ h Ad At As Ac L D hn x hd S ao f htr, hc, ⟨rfl, fun h => by cases h⟩, hR.mt 1⟩
  | true =>
    obtain ⟨q, hq, rfl⟩ := dHas_nat hn hd
    rw [hd, if_pos rfl, nI_clamp (by omega)] at hc
    refine ⟨0, _, _, vp_updL f 0 _, _, _, n_L_ifPlanned l G cyI cyO cyJ h Ad At As Ac L S D hn q hq ao f, hc, ⟨(mSh_rest (mT M 0) D.2.2.2.2.2.1).1, fun _ => ?_⟩, ⟨by have e := mSh_z (mT M 0) D.2.2.2.2.2.1; show RD D (mSh (mT M 0) D.2.2.2.2.2.1).2.1; rw [e]; exact hR.1, (mSh_rest (mT M 0) D.2.2.2.2.2.1).rv hR.2.1, (mSh_rest (mT M 0) D.2.2.2.2.2.1).rt hR.2.2⟩⟩
    rw [updL_0]; exact congrArg Int32.toInt64 (share_out (S := S) (M := mT M 0) hR.1.rs q hq)

theorem s_reason (l : Launch) (G : va_G) (cyI cyO cyJ : ClassId) (h : Nat) (Ad At As Ac Am : Nat → Nat) (ao : Nat) (L : Nat → Nat → Nat) (D T : DS) (S : SS) (C : TS) (V : HS) (M : MS) (f : Nat → Int64) (x : Int32) (htr : l.stackTraces = false) (hR : RR D V C M) :
    ∃ (k : Int32) (S' : SS) (D' : DS) (f' : Nat → Int64) (M' : MS) (a' : Int32), CH l G (TY3 cyI cyO cyJ) yL_reason wsL_reason rh_L_reason [.ref h, .int x, .ref ao] [oO h Ad At As Ac L, shW cyI As S, dyW cyI Ad D, oF cyJ ao f] k [oO h Ad At As Ac L, shW cyI As S', dyW cyI Ad D', oF cyJ ao f'] ∧ CI l G (TY cyI cyO) yX6_reason wsX6_reason rm_X6_reason [.ref (Am 0), .int x] [mdW cyI Am M] a' [mdW cyI Am M'] ∧ SP k f' a' M' ∧ RR D' V C M' := by
  have hn := hR.n20
  have hV := hR.v6
  have hC := hR.c60
  have hMI := hR.1.1.mi
  have hc := c_X6_reason l G cyI cyO Am M _ hMI x
  unfold mQ at hc
  rw [has_eq hn] at hc
  cases hd : dHas D.2.2.2.2.2.1 x with
  | false =>
    rw [hd, if_neg (by decide)] at hc
    exact ⟨1, S, D, f, _, _, t_L_reason_IO l G cyI cyO cyJ h Ad At As Ac L D hn x hd S ao f htr, hc, ⟨rfl, fun h => by cases h⟩, hR.mt 1⟩
  | true =>
    obtain ⟨q, hq, rfl⟩ := dHas_nat hn hd
    rw [hd, if_pos rfl, nI_clamp (by omega)] at hc
    refine ⟨0, _, _, vp_updL f 0 _, _, _, n_L_reason l G cyI cyO cyJ h Ad At As Ac L S D hn q hq ao f, hc, ⟨(mRea_rest (mT M 0) D.2.2.2.2.2.1 q).1, fun _ => ?_⟩, ⟨by have e := mRea_z (mT M 0) D.2.2.2.2.2.1 q; show RD D (mRea (mT M 0) D.2.2.2.2.2.1 q).2.1; rw [e]; exact hR.1, (mRea_rest (mT M 0) D.2.2.2.2.2.1 q).rv hR.2.1, (mRea_rest (mT M 0) D.2.2.2.2.2.1 q).rt hR.2.2⟩⟩
    rw [updL_0]; exact congrArg Int32.toInt64 (rea_eq (S := S) (M := mT M 0) hR.1 hq)

theorem s_size (l : Launch) (G : va_G) (cyI cyO cyJ : ClassId) (h : Nat) (Ad At As Ac Am : Nat → Nat) (ao : Nat) (L : Nat → Nat → Nat) (D T : DS) (S : SS) (C : TS) (V : HS) (M : MS) (f : Nat → Int64) (x : Int32) (htr : l.stackTraces = false) (hR : RR D V C M) :
    ∃ (k : Int32) (D' : DS) (f' : Nat → Int64) (M' : MS) (a' : Int32), CH l G (TY3 cyI cyO cyJ) yL_size wsL_size rh_L_size [.ref h, .int x, .ref ao] [oO h Ad At As Ac L, dyW cyI Ad D, oF cyJ ao f] k [oO h Ad At As Ac L, dyW cyI Ad D', oF cyJ ao f'] ∧ CI l G (TY cyI cyO) yX6_size wsX6_size rm_X6_size [.ref (Am 0), .int x] [mdW cyI Am M] a' [mdW cyI Am M'] ∧ SP k f' a' M' ∧ RR D' V C M' := by
  have hn := hR.n20
  have hV := hR.v6
  have hC := hR.c60
  have hMI := hR.1.1.mi
  have hc := c_X6_size l G cyI cyO Am M _ hMI x
  unfold mQm at hc
  cases hd : isDig x 0 5 with
  | false =>
    rw [hd, if_neg (by decide)] at hc
    exact ⟨1, D, f, _, _, t_L_size_IO l G cyI cyO cyJ h Ad At As Ac L D x hd ao f htr, hc, ⟨rfl, fun h => by cases h⟩, hR.mt 1⟩
  | true =>
    obtain ⟨q, hq, rfl⟩ := dig_nat hd
    rw [hd, if_pos rfl] at hc
    refine ⟨0, _, vp_updL f 0 _, _, _, n_L_size l G cyI cyO cyJ h Ad At As Ac L D hn q hq ao f, hc, ⟨rfl, fun _ => ?_⟩, hR.mt 0⟩
    rw [updL_0, hR.1.rs.sz]

theorem s_load (l : Launch) (G : va_G) (cyI cyO cyJ : ClassId) (h : Nat) (Ad At As Ac Am : Nat → Nat) (ao : Nat) (L : Nat → Nat → Nat) (D T : DS) (S : SS) (C : TS) (V : HS) (M : MS) (f : Nat → Int64) (x : Int32) (htr : l.stackTraces = false) (hR : RR D V C M) :
    ∃ (k : Int32) (D' : DS) (f' : Nat → Int64) (M' : MS) (a' : Int32), CH l G (TY3 cyI cyO cyJ) yL_load wsL_load rh_L_load [.ref h, .int x, .ref ao] [oO h Ad At As Ac L, dyW cyI Ad D, oF cyJ ao f] k [oO h Ad At As Ac L, dyW cyI Ad D', oF cyJ ao f'] ∧ CI l G (TY cyI cyO) yX6_load wsX6_load rm_X6_load [.ref (Am 0), .int x] [mdW cyI Am M] a' [mdW cyI Am M'] ∧ SP k f' a' M' ∧ RR D' V C M' := by
  have hn := hR.n20
  have hV := hR.v6
  have hC := hR.c60
  have hMI := hR.1.1.mi
  have hc := c_X6_load l G cyI cyO Am M _ hMI x
  unfold mQm at hc
  cases hd : isDig x 0 5 with
  | false =>
    rw [hd, if_neg (by decide)] at hc
    exact ⟨1, D, f, _, _, t_L_load_IO l G cyI cyO cyJ h Ad At As Ac L D x hd ao f htr, hc, ⟨rfl, fun h => by cases h⟩, hR.mt 1⟩
  | true =>
    obtain ⟨q, hq, rfl⟩ := dig_nat hd
    rw [hd, if_pos rfl] at hc
    refine ⟨0, _, vp_updL f 0 _, _, _, n_L_load l G cyI cyO cyJ h Ad At As Ac L D hn q hq ao f, hc, ⟨rfl, fun _ => ?_⟩, hR.mt 0⟩
    rw [updL_0, hR.1.rs.ld]

theorem s_isAtWork (l : Launch) (G : va_G) (cyI cyO cyJ : ClassId) (h : Nat) (Ad At As Ac Am : Nat → Nat) (ao : Nat) (L : Nat → Nat → Nat) (D T : DS) (S : SS) (C : TS) (V : HS) (M : MS) (f : Nat → Int64) (x : Int32) (htr : l.stackTraces = false) (hR : RR D V C M) :
    ∃ (k : Int32) (D' : DS) (f' : Nat → Int64) (M' : MS) (a' : Int32), CH l G (TY3 cyI cyO cyJ) yL_isAtWork wsL_isAtWork rh_L_isAtWork [.ref h, .int x, .ref ao] [oO h Ad At As Ac L, dyW cyI Ad D, oF cyJ ao f] k [oO h Ad At As Ac L, dyW cyI Ad D', oF cyJ ao f'] ∧ CI l G (TY cyI cyO) yX6_isAtWork wsX6_isAtWork rm_X6_isAtWork [.ref (Am 0), .int x] [mdW cyI Am M] a' [mdW cyI Am M'] ∧ (M'.1 = k ∧ (k = 0 → (a' = 0 → f' 0 = 0) ∧ (¬ a' = 0 → f' 0 = 1))) ∧ RR D' V C M' := by
  have hn := hR.n20
  have hV := hR.v6
  have hC := hR.c60
  have hMI := hR.1.1.mi
  have hc := c_X6_isAtWork l G cyI cyO Am M _ hMI x
  cases hd : isDig x 0 5 with
  | false =>
    rw [hd, if_neg (by decide)] at hc
    exact ⟨1, D, f, _, _, t_L_isAtWork_IO l G cyI cyO cyJ h Ad At As Ac L D x hd ao f htr, hc, ⟨rfl, fun h => by cases h⟩, hR.mt 1⟩
  | true =>
    obtain ⟨q, hq, rfl⟩ := dig_nat hd
    rw [hd, if_pos rfl, nI_clamp (by omega), Bool.true_and, hR.1.2.2.1 q hq] at hc
    refine ⟨0, _, vp_updL f 0 _, _, _, n_L_isAtWork l G cyI cyO cyJ h Ad At As Ac L D q hq ao f, hc, ⟨rfl, fun _ => ⟨fun h9 => ?_, fun h9 => ?_⟩⟩, hR.mt 0⟩
    · rw [updL_0, bI_z.mp h9]; rfl
    · rw [updL_0, bI_nz.mp h9]; rfl

theorem s_changesIf (l : Launch) (G : va_G) (cyI cyO cyJ : ClassId) (h : Nat) (Ad At As Ac Am : Nat → Nat) (ao : Nat) (L : Nat → Nat → Nat) (D T : DS) (S : SS) (C : TS) (V : HS) (M : MS) (f : Nat → Int64) (x : Int32) (htr : l.stackTraces = false) (hR : RR D V C M) :
    ∃ (k : Int32) (S' : SS) (T' : DS) (D' : DS) (f' : Nat → Int64) (M' : MS) (a' : Int32), CH l G (TY3 cyI cyO cyJ) yL_changesIf wsL_changesIf rh_L_changesIf [.ref h, .int x, .ref ao] [oO h Ad At As Ac L, shW cyI As S, dyW cyI At T, dyW cyI Ad D, oF cyJ ao f] k [oO h Ad At As Ac L, shW cyI As S', dyW cyI At T', dyW cyI Ad D', oF cyJ ao f'] ∧ CI l G (TY cyI cyO) yX6_changesIf wsX6_changesIf rm_X6_changesIf [.ref (Am 0), .int x] [mdW cyI Am M] a' [mdW cyI Am M'] ∧ SP k f' a' M' ∧ RR D' V C M' := by
  have hn := hR.n20
  have hV := hR.v6
  have hC := hR.c60
  have hMI := hR.1.1.mi
  have hc := c_X6_changesIf l G cyI cyO Am M _ hMI x
  unfold mQm at hc
  cases hd : isDig x 0 5 with
  | false =>
    rw [hd, if_neg (by decide)] at hc
    exact ⟨1, S, T, D, f, _, _, t_L_changesIf_IO l G cyI cyO cyJ h Ad At As Ac L D x hd T S ao f htr, hc, ⟨rfl, fun h => by cases h⟩, hR.mt 1⟩
  | true =>
    obtain ⟨q, hq, rfl⟩ := dig_nat hd
    rw [hd, if_pos rfl, nI_clamp (by omega)] at hc
    refine ⟨0, _, _, _, vp_updL f 0 _, _, _, n_L_changesIf l G cyI cyO cyJ h Ad At As Ac L S T D q hq hn ao f, hc, ⟨(mChB_rest (mT M 0) D.2.2.2.2.2.1 q).1, fun _ => ?_⟩, ⟨by have e := mChB_z (mT M 0) D.2.2.2.2.2.1 q; show RD D (mChB (mT M 0) D.2.2.2.2.2.1 q).1.2.1; rw [e]; exact hR.1, (mChB_rest (mT M 0) D.2.2.2.2.2.1 q).rv hR.2.1, (mChB_rest (mT M 0) D.2.2.2.2.2.1 q).rt hR.2.2⟩⟩
    rw [updL_0]; exact congrArg Int32.toInt64 (ch_eq (S := S) (T := T) (M := mT M 0) hR.1.rs hq)

theorem s_plan (l : Launch) (G : va_G) (cyI cyO cyJ : ClassId) (h : Nat) (Ad At As Ac Am : Nat → Nat) (ao : Nat) (L : Nat → Nat → Nat) (D T : DS) (S : SS) (C : TS) (V : HS) (M : MS) (f : Nat → Int64)  (htr : l.stackTraces = false) (hR : RR D V C M) :
    ∃ (k : Int32) (L' : Nat → Nat → Nat) (S' : SS) (D' : DS) (V' : HS) (f' : Nat → Int64) (M' : MS) (a' : Int32), CH l G (TY3 cyI cyO cyJ) yL_plan wsL_plan rh_L_plan [.ref h, .ref ao] [oO h Ad At As Ac L, shW cyI As S, dyW cyI Ad D, hiW cyI cyO L V, oF cyJ ao f] k [oO h Ad At As Ac L', shW cyI As S', dyW cyI Ad D', hiW cyI cyO L' V', oF cyJ ao f'] ∧ CI l G (TY cyI cyO) yX6_plan wsX6_plan rm_X6_plan [.ref (Am 0)] [mdW cyI Am M] a' [mdW cyI Am M'] ∧ SP k f' a' M' ∧ RR D' V' C M' := by
  have hn := hR.n20
  have hV := hR.v6
  have hC := hR.c60
  have hMI := hR.1.1.mi
  have hc := c_X6_plan l G cyI cyO Am M _ hMI hR.s6
  have hno := hR.1.noPlan
  cases hm : (!dHO D && decide (0 < cW D.2.2.1)) with
  | false =>
    rw [hm, if_neg (by decide)] at hno
    rw [mDo_1 hno] at hc
    dsimp only at hc
    exact ⟨1, L, S, D, V, f, _, _, t_L_plan_IS l G cyI cyO cyJ h Ad At As Ac L D hm S V ao f htr, hc, ⟨rfl, fun h => by cases h⟩, hR.mt 1⟩
  | true =>
    rw [hm, if_pos rfl] at hno
    rw [mDo_0 hno, hno] at hc
    dsimp only at hc
    have hm2 : dHO D = false ∧ 0 < cW D.2.2.1 := by simpa using hm
    have hsv := hR.2.1.save hR.1
    have hpr := mSh_rest (mRecS (mT M 0)) D.2.2.2.2.2.1
    refine ⟨0, svM L V, _, _, _, vp_updL f 0 _, _, _, n_L_plan l G cyI cyO cyJ h Ad At As Ac L S D V hn hV hm ao f, hc, ⟨hpr.1, fun _ => ?_⟩, ⟨RD.plan (M := mRecS (mT M 0)) hR.1 (hR.1.ho0.mp hm2.1), hpr.rv hsv, hpr.rt hR.2.2⟩⟩
    rw [updL_0]; exact congrArg Int32.toInt64 (share_res (S := S) (M := mRecS (mT M 0)) hR.1.rs)

theorem s_handOver (l : Launch) (G : va_G) (cyI cyO cyJ : ClassId) (h : Nat) (Ad At As Ac Am : Nat → Nat) (ao : Nat) (L : Nat → Nat → Nat) (D T : DS) (S : SS) (C : TS) (V : HS) (M : MS) (f : Nat → Int64)  (htr : l.stackTraces = false) (hR : RR D V C M) :
    ∃ (k : Int32) (L' : Nat → Nat → Nat) (D' : DS) (V' : HS) (f' : Nat → Int64) (M' : MS) (a' : Int32), CH l G (TY3 cyI cyO cyJ) yL_handOver wsL_handOver rh_L_handOver [.ref h, .ref ao] [oO h Ad At As Ac L, dyW cyI Ad D, hiW cyI cyO L V, oF cyJ ao f] k [oO h Ad At As Ac L', dyW cyI Ad D', hiW cyI cyO L' V', oF cyJ ao f'] ∧ CI l G (TY cyI cyO) yX6_handOver wsX6_handOver rm_X6_handOver [.ref (Am 0)] [mdW cyI Am M] a' [mdW cyI Am M'] ∧ SP k f' a' M' ∧ RR D' V' C M' := by
  have hn := hR.n20
  have hV := hR.v6
  have hC := hR.c60
  have hMI := hR.1.1.mi
  have hc := c_X6_handOver l G cyI cyO Am M _ hMI hR.s6
  have hno := hR.1.noHand
  cases hm : dHO D with
  | false =>
    rw [hm, if_neg (by decide)] at hno
    rw [mDo_1 hno] at hc
    dsimp only at hc
    exact ⟨1, L, D, V, f, _, _, t_L_handOver_IS l G cyI cyO cyJ h Ad At As Ac L D hm V ao f htr, hc, ⟨rfl, fun h => by cases h⟩, hR.mt 1⟩
  | true =>
    rw [hm, if_pos rfl] at hno
    rw [mDo_0 hno, hno] at hc
    dsimp only at hc
    obtain ⟨e1, e2⟩ := hR.1.hand (hR.1.ho1.mp hm)
    exact ⟨0, svM L V, _, _, vp_updL f 0 _, _, _, n_L_handOver l G cyI cyO cyJ h Ad At As Ac L D V hn hV hm ao f, hc, ⟨rfl, fun _ => by rw [updL_0, e2]⟩, hR.save 0 e1⟩

theorem s_callOff (l : Launch) (G : va_G) (cyI cyO cyJ : ClassId) (h : Nat) (Ad At As Ac Am : Nat → Nat) (ao : Nat) (L : Nat → Nat → Nat) (D T : DS) (S : SS) (C : TS) (V : HS) (M : MS) (f : Nat → Int64)  (htr : l.stackTraces = false) (hR : RR D V C M) :
    ∃ (k : Int32) (L' : Nat → Nat → Nat) (D' : DS) (V' : HS) (f' : Nat → Int64) (M' : MS) (a' : Int32), CH l G (TY3 cyI cyO cyJ) yL_callOff wsL_callOff rh_L_callOff [.ref h, .ref ao] [oO h Ad At As Ac L, dyW cyI Ad D, hiW cyI cyO L V, oF cyJ ao f] k [oO h Ad At As Ac L', dyW cyI Ad D', hiW cyI cyO L' V', oF cyJ ao f'] ∧ CI l G (TY cyI cyO) yX6_callOff wsX6_callOff rm_X6_callOff [.ref (Am 0)] [mdW cyI Am M] a' [mdW cyI Am M'] ∧ SP k f' a' M' ∧ RR D' V' C M' := by
  have hn := hR.n20
  have hV := hR.v6
  have hC := hR.c60
  have hMI := hR.1.1.mi
  have hc := c_X6_callOff l G cyI cyO Am M _ hMI hR.s6
  have hno := hR.1.noHand
  cases hm : dHO D with
  | false =>
    rw [hm, if_neg (by decide)] at hno
    rw [mDo_1 hno] at hc
    dsimp only at hc
    exact ⟨1, L, D, V, f, _, _, t_L_callOff_IS l G cyI cyO cyJ h Ad At As Ac L D hm V ao f htr, hc, ⟨rfl, fun h => by cases h⟩, hR.mt 1⟩
  | true =>
    rw [hm, if_pos rfl] at hno
    rw [mDo_0 hno, hno] at hc
    dsimp only at hc
    obtain ⟨e1, e2⟩ := hR.1.off (hR.1.ho1.mp hm)
    exact ⟨0, svM L V, _, _, vp_updL f 0 _, _, _, n_L_callOff l G cyI cyO cyJ h Ad At As Ac L D V hn hV hm ao f, hc, ⟨rfl, fun _ => by rw [updL_0, e2]⟩, hR.save 0 e1⟩

theorem s_append (l : Launch) (G : va_G) (cyI cyO cyJ : ClassId) (h : Nat) (Ad At As Ac Am : Nat → Nat) (ao : Nat) (L : Nat → Nat → Nat) (D T : DS) (S : SS) (C : TS) (V : HS) (M : MS) (f : Nat → Int64) (x : Int32) (htr : l.stackTraces = false) (hR : RR D V C M) :
    ∃ (k : Int32) (C' : TS) (f' : Nat → Int64) (M' : MS) (a' : Int32), CH l G (TY3 cyI cyO cyJ) yL_append wsL_append rh_L_append [.ref h, .int x, .ref ao] [oO h Ad At As Ac L, ctW cyI Ac C, oF cyJ ao f] k [oO h Ad At As Ac L, ctW cyI Ac C', oF cyJ ao f'] ∧ CI l G (TY cyI cyO) yX6_append wsX6_append rm_X6_append [.ref (Am 0), .int x] [mdW cyI Am M] a' [mdW cyI Am M'] ∧ SP k f' a' M' ∧ RR D V C' M' := by
  have hn := hR.n20
  have hV := hR.v6
  have hC := hR.c60
  have hMI := hR.1.1.mi
  have hc := c_X6_append l G cyI cyO Am M x hR.l60
  unfold mApp at hc
  cases hd : isDig x 33 126 with
  | false =>
    rw [hd, if_neg (by decide)] at hc
    exact ⟨1, C, f, _, _, t_L_append_IA l G cyI cyO cyJ h Ad At As Ac L C hC x hd ao f htr, hc, ⟨rfl, fun h => by cases h⟩, hR.mt 1⟩
  | true =>
    obtain ⟨p, h1, h9, rfl⟩ := dig_d (a := 33) (b := 126) (by omega) (by omega) hd
    rw [hd, if_pos rfl] at hc
    by_cases h6 : M.2.2.2.2.2.1 = 60
    · rw [if_pos h6] at hc
      exact ⟨2, C, f, _, _, t_L_append_IS l G cyI cyO cyJ h Ad At As Ac L C p h1 h9 (by rw [hR.2.2.1]; exact h6) ao f htr, hc, ⟨rfl, fun h => by cases h⟩, hR.mt 2⟩
    · rw [if_neg h6] at hc
      have hl := hR.l60
      refine ⟨0, _, vp_updL f 0 _, _, _, n_L_append l G cyI cyO cyJ h Ad At As Ac L C p h1 h9 (by rw [hR.2.2.1]; omega) ao f, hc, ⟨rfl, fun _ => ?_⟩, ⟨hR.1, hR.2.1, hR.2.2.app (by omega) h1 h9⟩⟩
      rw [updL_0, hR.2.2.1]

theorem s_undo (l : Launch) (G : va_G) (cyI cyO cyJ : ClassId) (h : Nat) (Ad At As Ac Am : Nat → Nat) (ao : Nat) (L : Nat → Nat → Nat) (D T : DS) (S : SS) (C : TS) (V : HS) (M : MS) (f : Nat → Int64)  (htr : l.stackTraces = false) (hR : RR D V C M) :
    ∃ (k : Int32) (L' : Nat → Nat → Nat) (D' : DS) (V' : HS) (f' : Nat → Int64) (M' : MS) (a' : Int32), CH l G (TY3 cyI cyO cyJ) yL_undo wsL_undo rh_L_undo [.ref h, .ref ao] [oO h Ad At As Ac L, dyW cyI Ad D, hiW cyI cyO L V, oF cyJ ao f] k [oO h Ad At As Ac L', dyW cyI Ad D', hiW cyI cyO L' V', oF cyJ ao f'] ∧ CI l G (TY cyI cyO) yX6_undo wsX6_undo rm_X6_undo [.ref (Am 0)] [mdW cyI Am M] a' [mdW cyI Am M'] ∧ SP k f' a' M' ∧ RR D' V' C M' := by
  have hn := hR.n20
  have hV := hR.v6
  have hC := hR.c60
  have hMI := hR.1.1.mi
  have hc := c_X6_undo l G cyI cyO Am M hR.s6
  unfold mUndo at hc
  by_cases h0 : M.2.2.2.1 = 0
  · rw [if_pos h0] at hc
    exact ⟨1, L, D, V, f, _, _, t_L_undo_IS l G cyI cyO cyJ h Ad At As Ac L V (by rw [hR.2.1.1]; exact h0) D ao f htr, hc, ⟨rfl, fun h => by cases h⟩, hR.mt 1⟩
  · rw [if_neg h0] at hc
    obtain ⟨e1, e2⟩ := hR.2.1.back (z := M.2.1) (D := D) h0
    refine ⟨0, L, _, _, vp_updL f 0 _, _, _, n_L_undo l G cyI cyO cyJ h Ad At As Ac L D V hV (by rw [hR.2.1.1]; omega) ao f, hc, ⟨rfl, fun _ => ?_⟩, ⟨e2, e1, hR.2.2⟩⟩
    rw [updL_0, hR.2.1.1]

theorem s_run (l : Launch) (G : va_G) (cyI cyO cyJ : ClassId) (h : Nat) (Ad At As Ac Am : Nat → Nat) (ao : Nat) (L : Nat → Nat → Nat) (D T : DS) (S : SS) (C : TS) (V : HS) (M : MS) (f : Nat → Int64)  (htr : l.stackTraces = false) (hR : RR D V C M) :
    ∃ (k : Int32) (L' : Nat → Nat → Nat) (S' : SS) (D' : DS) (C' : TS) (V' : HS) (f' : Nat → Int64) (M' : MS) (a' : Int32), CH l G (TY3 cyI cyO cyJ) yL_run wsL_run rh_L_run [.ref h, .ref ao] [oO h Ad At As Ac L, shW cyI As S, dyW cyI Ad D, ctW cyI Ac C, hiW cyI cyO L V, oF cyJ ao f] k [oO h Ad At As Ac L', shW cyI As S', dyW cyI Ad D', ctW cyI Ac C', hiW cyI cyO L' V', oF cyJ ao f'] ∧ CI l G (TY cyI cyO) yX6_run wsX6_run rm_X6_run [.ref (Am 0)] [mdW cyI Am M] a' [mdW cyI Am M'] ∧ SP k f' a' M' ∧ RR D' V' C' M' := by
  have hn := hR.n20
  have hV := hR.v6
  have hC := hR.c60
  have hMI := hR.1.1.mi
  have hc := c_X6_run l G cyI cyO Am M _ hMI hR.s6 hR.l60 hR.1.1
  cases hm : ctFull C with
  | false =>
    have hnf : ¬ (feF M.2.2.2.2.1 M.2.2.2.2.2.1 61 0 M.2.2.2.2.2.2.2.2.2.2.2).1 < 0 := fun h => by have := (full_ok hR.2.2).mp h; rw [hm] at this; cases this
    have em : mRun M = ((1, M.2.1, M.2.2.1, M.2.2.2.1, M.2.2.2.2.1, M.2.2.2.2.2.1, M.2.2.2.2.2.2.1, M.2.2.2.2.2.2.2.1, M.2.2.2.2.2.2.2.2.1, M.2.2.2.2.2.2.2.2.2.1, (feF M.2.2.2.2.1 M.2.2.2.2.2.1 61 0 M.2.2.2.2.2.2.2.2.2.2.2).2.1, (feF M.2.2.2.2.1 M.2.2.2.2.2.1 61 0 M.2.2.2.2.2.2.2.2.2.2.2).2.2), 0) := if_neg hnf
    rw [em] at hc
    exact ⟨1, L, S, D, C, V, f, _, _, t_L_run_IA l G cyI cyO cyJ h Ad At As Ac L C hC hm D S V ao f htr, hc, ⟨rfl, fun h => by cases h⟩, ⟨hR.1, hR.2.1, hR.2.2⟩⟩
  | true =>
    obtain ⟨S', D', d', u', v', g', hq, r1, r2, r3, r4, r5, r6, r7⟩ := run_ok (S := S) (D := D) hR.2.2 hR.1 hm
    refine ⟨0, svM L V, S', D', _, _, vp_updL f 0 _, _, _, n_L_run l G cyI cyO cyJ h Ad At As Ac L S D C V hn hC hV hm S' D' d' u' v' g' hq ao f, hc, ⟨r2, fun _ => ?_⟩, ⟨r3, ?_, ?_⟩⟩
    · rw [updL_0, r1]
    · rw [r4, r5]; exact hR.2.1.save hR.1
    · rw [r6, r7]; exact hR.2.2.none


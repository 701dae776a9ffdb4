/-! ===== the relation: saved states ===== -/
def RV (V : HS) (f : Nat → Int32) (s : Nat) : Prop := V.1 = s ∧ s ≤ 6 ∧ ∀ k, k < s → RD (V.2 k) (fun j => f (91 * k + j))
theorem shift_at (f : Nat → Int32) : ∀ t j, itr t (fun k g => upd g k (g (91 + k))) f j = if j < t then f (91 + j) else f j := by
  intro t
  induction t with
  | zero => intro j; rw [if_neg (by omega)]; rfl
  | succ t ih =>
    intro j
    show upd (itr t (fun k g => upd g k (g (91 + k))) f) t (itr t (fun k g => upd g k (g (91 + k))) f (91 + t)) j = _
    by_cases e : j = t
    · subst e; rw [pk_us, ih, if_neg (by omega), if_pos (by omega)]
    · rw [pk_un e, ih]
      by_cases h : j < t
      · rw [if_pos h, if_pos (by omega)]
      · rw [if_neg h, if_neg (by omega)]
theorem put_at (z f : Nat → Int32) (b : Nat) : ∀ t j, itr t (fun k g => upd g (b + k) (z k)) f j = if b ≤ j ∧ j < b + t then z (j - b) else f j := by
  intro t
  induction t with
  | zero => intro j; rw [if_neg (by omega)]; rfl
  | succ t ih =>
    intro j
    show upd (itr t (fun k g => upd g (b + k) (z k)) f) (b + t) (z t) j = _
    by_cases e : j = b + t
    · subst e; rw [pk_us, if_pos (by omega), Nat.add_sub_cancel_left]
    · rw [pk_un e, ih]
      by_cases h : b ≤ j ∧ j < b + t
      · rw [if_pos h, if_pos (by omega)]
      · rw [if_neg h, if_neg (by omega)]
theorem RV.save {V : HS} {f z : Nat → Int32} {s : Nat} {D : DS} (h : RV V f s) (hd : RD D z) : RV (svS V D) (recA z f s).1 (recA z f s).2 := by
  obtain ⟨c, DD⟩ := V
  obtain ⟨h1, h2, h3⟩ := h
  dsimp only at h1 h3
  subst h1
  unfold recA svS
  by_cases e : c = 6
  · rw [if_pos e]
    show RV (if c < 6 then _ else _) (itr 91 (fun k g => upd g (91 * 5 + k) (z k)) (itr 455 (fun k g => upd g k (g (91 + k))) f)) 6
    rw [if_neg (by omega)]
    refine ⟨rfl, by omega, fun k hk => ?_⟩
    show RD (rotD DD D k) _
    unfold rotD
    by_cases hk5 : k < 5
    · rw [if_pos hk5]
      refine (h3 (k + 1) (by omega)).same fun j hj => ?_
      show itr 91 (fun k g => upd g (91 * 5 + k) (z k)) (itr 455 (fun k g => upd g k (g (91 + k))) f) (91 * k + j) = f (91 * (k + 1) + j)
      rw [put_at, if_neg (by omega), shift_at, if_pos (by omega), show 91 + (91 * k + j) = 91 * (k + 1) + j by omega]
    · rw [if_neg hk5]
      refine hd.copy.same fun j hj => ?_
      show itr 91 (fun k g => upd g (91 * 5 + k) (z k)) (itr 455 (fun k g => upd g k (g (91 + k))) f) (91 * k + j) = z j
      rw [put_at, if_pos (by omega), show 91 * k + j - 91 * 5 = j by omega]
  · rw [if_neg e]
    show RV (if c < 6 then _ else _) (itr 91 (fun k g => upd g (91 * c + k) (z k)) f) (c + 1)
    rw [if_pos (by omega)]
    refine ⟨rfl, by omega, fun k hk => ?_⟩
    show RD (va_up DD c (dCopy (DD c) D) k) _
    by_cases ek : k = c
    · subst ek
      have e9 : va_up DD k (dCopy (DD k) D) k = dCopy (DD k) D := by simp [va_up]
      rw [e9]
      refine hd.copy.same fun j hj => ?_
      show itr 91 (fun i g => upd g (91 * k + i) (z i)) f (91 * k + j) = z j
      rw [put_at, if_pos (by omega), Nat.add_sub_cancel_left]
    · have e9 : va_up DD c (dCopy (DD c) D) k = DD k := by simp [va_up, ek]
      rw [e9]
      refine (h3 k (by omega)).same fun j hj => ?_
      show itr 91 (fun i g => upd g (91 * c + i) (z i)) f (91 * k + j) = f (91 * k + j)
      rw [put_at, if_neg (by omega)]
theorem RV.back {V : HS} {f z : Nat → Int32} {s : Nat} {D : DS} (h : RV V f s) (h0 : ¬ s = 0) : RV (V.1 - 1, V.2) f (s - 1) ∧ RD (dCopy D (V.2 (V.1 - 1))) (itr 91 (fun k g => upd g k (f (91 * (s - 1) + k))) z) := by
  obtain ⟨h1, h2, h3⟩ := h
  rw [h1]
  refine ⟨⟨rfl, by omega, fun k hk => h3 k (by omega)⟩, (h3 (s - 1) (by omega)).copy.same fun j hj => ?_⟩
  have e := itr_at (f0 := z) (g := fun k g => upd g k (f (91 * (s - 1) + k))) (v := fun k => f (91 * (s - 1) + k)) (fun _ _ => rfl) 91 j
  rw [e, if_pos hj]
/-! ===== the relation: texts ===== -/
def RT (C : TS) (t : Nat → Int32) (n : Nat) : Prop := C.2 = n ∧ n ≤ 60 ∧ ∀ k, k < n → C.1 k = t k ∧ ∃ j, 33 ≤ j ∧ j ≤ 126 ∧ t k = nI j
theorem RT.app {C : TS} {t : Nat → Int32} {n v : Nat} (h : RT C t n) (hn : n < 60) (h1 : 33 ≤ v) (h9 : v ≤ 126) : RT (upd C.1 C.2 (nI v), C.2 + 1) (upd t n (nI v)) (n + 1) := by
  obtain ⟨a1, a2, a3⟩ := h
  refine ⟨by show C.2 + 1 = n + 1; omega, by omega, fun k hk => ?_⟩
  show upd C.1 C.2 (nI v) k = upd t n (nI v) k ∧ ∃ j, 33 ≤ j ∧ j ≤ 126 ∧ upd t n (nI v) k = nI j
  rw [a1]
  by_cases e : k = n
  · subst e; rw [pk_us, pk_us]; exact ⟨rfl, v, h1, h9, rfl⟩
  · rw [pk_un e, pk_un e]; exact a3 k (by omega)
theorem RT.none {C : TS} {t : Nat → Int32} {n : Nat} (_ : RT C t n) : RT (C.1, 0) t 0 := ⟨rfl, by omega, fun k hk => absurd hk (Nat.not_lt_zero _)⟩

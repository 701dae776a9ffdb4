/-! ===== segments: a world as a list of lists of cells ===== -/
def cat (gs : List va_W) : va_W := gs.flatten
def sets : List va_W → List Nat → List va_W → List va_W
  | gs, i :: is, g :: go => sets (gs.set i g) is go
  | gs, _, _ => gs
theorem P_iff {D : va_G} {cl : List vw_C} {ws : va_W} {H : Heap} : va_P D cl ws H ↔ ∀ q ∈ ws, va_at D cl q H :=
  ⟨fun h q hq => by obtain ⟨k, hk⟩ := List.getElem?_of_mem hq; exact h k q hk, fun h k q hk => h q (List.mem_of_getElem? hk)⟩
theorem D_iff {A : Nat → Prop} {ws : va_W} : va_D A ws ↔ (ws.map Prod.fst).Nodup ∧ ∀ q ∈ ws, A q.1 := by
  constructor
  · intro h
    refine ⟨?_, fun q hq => by obtain ⟨k, hk⟩ := List.getElem?_of_mem hq; exact h.2 k q hk⟩
    rw [List.Nodup, List.pairwise_iff_getElem]
    intro i j hi hj hij e
    simp only [List.length_map] at hi hj
    simp only [List.getElem_map] at e
    have := h.1 i j ws[i] ws[j] (List.getElem?_eq_getElem hi) (List.getElem?_eq_getElem hj) e
    omega
  · intro h
    refine ⟨fun i j p q hp hq e => ?_, fun k q hk => h.2 q (List.mem_of_getElem? hk)⟩
    obtain ⟨hi, rfl⟩ := List.getElem?_eq_some_iff.mp hp
    obtain ⟨hj, rfl⟩ := List.getElem?_eq_some_iff.mp hq
    have hn := h.1
    rw [List.Nodup, List.pairwise_iff_getElem] at hn
    rcases Nat.lt_trichotomy i j with hl | hl | hl
    · exact absurd (by rw [List.getElem_map, List.getElem_map]; exact e) (hn i j (by simpa using hi) (by simpa using hj) hl)
    · exact hl
    · exact absurd (by rw [List.getElem_map, List.getElem_map]; exact e.symm) (hn j i (by simpa using hj) (by simpa using hi) hl)
theorem cat_set {gs : List va_W} {i : Nat} {g : va_W} (hi : i < gs.length) : (cat (gs.set i g)).Perm (g ++ cat (gs.set i [])) := by
  induction gs generalizing i with
  | nil => simp at hi
  | cons a l ih =>
    cases i with
    | zero => simp [cat]
    | succ i =>
      have h := ih (i := i) (by simpa using hi)
      simp only [List.set_cons_succ, cat, List.flatten_cons] at h ⊢
      refine (List.Perm.append_left a h).trans ?_
      exact List.perm_append_comm_assoc a g _
theorem sets_len : ∀ (is : List Nat) (gs go : List va_W), (sets gs is go).length = gs.length
  | [], gs, _ => by simp [sets]
  | _ :: _, gs, [] => by simp [sets]
  | i :: is, gs, g :: go => by simp [sets, sets_len is]
theorem sets_comm {i : Nat} {g : va_W} : ∀ (is : List Nat) (gs go : List va_W), i ∉ is → sets (gs.set i g) is go = (sets gs is go).set i g
  | [], gs, _, _ => by simp [sets]
  | _ :: _, gs, [], _ => by simp [sets]
  | j :: is, gs, h :: go, hn => by
    simp only [List.mem_cons, not_or] at hn
    simp only [sets]
    rw [List.set_comm _ _ hn.1, sets_comm is _ go hn.2]
theorem sets_perm : ∀ (is : List Nat) (gs go : List va_W), va_nd is = true → is.length = go.length → (∀ i ∈ is, i < gs.length) → (cat (sets gs is go)).Perm (cat go ++ cat (sets gs is (go.map fun _ => [])))
  | [], gs, [], _, _, _ => by simp [sets, cat]
  | [], gs, _ :: _, _, hl, _ => by simp at hl
  | _ :: _, gs, [], _, hl, _ => by simp at hl
  | i :: is, gs, g :: go, hn, hl, hi => by
    simp only [va_nd, Bool.and_eq_true, decide_eq_true_eq] at hn
    have hi0 : i < gs.length := hi i List.mem_cons_self
    have h1 := sets_perm is (gs.set i g) go hn.2 (by simpa using hl) (fun j hj => by simpa using hi j (List.mem_cons_of_mem _ hj))
    simp only [sets, List.map_cons]
    refine h1.trans ?_
    rw [sets_comm is gs _ hn.1, sets_comm is gs _ hn.1]
    have h2 : (cat ((sets gs is (go.map fun _ => [])).set i g)).Perm (g ++ cat ((sets gs is (go.map fun _ => [])).set i [])) := cat_set (by rw [sets_len]; exact hi0)
    refine (List.Perm.append_left _ h2).trans ?_
    simp only [cat, List.flatten_cons, List.append_assoc]
    exact List.perm_append_comm_assoc _ _ _
theorem sets_self : ∀ (is : List Nat) (gs gi : List va_W), va_nd is = true → is.map (fun i => gs[i]?) = gi.map some → sets gs is gi = gs
  | [], gs, gi, _, h => by simp [sets]
  | _ :: _, gs, [], _, h => by simp at h
  | i :: is, gs, g :: gi, hn, h => by
    simp only [List.map_cons, List.cons.injEq] at h
    simp only [va_nd, Bool.and_eq_true] at hn
    have hs : gs.set i g = gs := by
      obtain ⟨hl, rfl⟩ := List.getElem?_eq_some_iff.mp h.1
      exact List.set_getElem_self hl
    simp only [sets]
    rw [hs]
    exact sets_self is gs gi hn.2 h.2
theorem seg_lt {is : List Nat} {gs gi : List va_W} (hi : is.map (fun i => gs[i]?) = gi.map some) : ∀ i ∈ is, i < gs.length := by
  intro i hm
  obtain ⟨k, hk⟩ := List.getElem?_of_mem hm
  have h1 : (is.map (fun i => gs[i]?))[k]? = some (gs[i]?) := by rw [List.getElem?_map, hk]; rfl
  rw [hi, List.getElem?_map] at h1
  cases hg : gi[k]? with
  | none => rw [hg] at h1; cases h1
  | some g => rw [hg] at h1; exact (List.getElem?_eq_some_iff.mp (Option.some.inj h1).symm).1
theorem seg_len {is : List Nat} {gs gi : List va_W} (hi : is.map (fun i => gs[i]?) = gi.map some) : is.length = gi.length := by
  have := congrArg List.length hi
  simpa using this
/-- the chosen segments, and the rest -/
theorem seg_split {is : List Nat} {gs gi : List va_W} (hn : va_nd is = true) (hi : is.map (fun i => gs[i]?) = gi.map some) : (cat gs).Perm (cat gi ++ cat (sets gs is (gi.map fun _ => []))) := by
  have h := sets_perm is gs gi hn (seg_len hi) (seg_lt hi)
  rwa [sets_self is gs gi hn hi] at h
theorem va_A_iff {ws : va_W} {sz q : Nat} : va_A ws sz q ↔ q ∈ ws.map Prod.fst ∨ sz ≤ q := by
  unfold va_A
  constructor
  · rintro (⟨k, e, h⟩ | h)
    · exact Or.inl (List.mem_map.mpr ⟨(q, e), List.mem_of_getElem? h, rfl⟩)
    · exact Or.inr h
  · rintro (h | h)
    · obtain ⟨⟨a, e⟩, h1, rfl⟩ := List.mem_map.mp h
      obtain ⟨k, hk⟩ := List.getElem?_of_mem h1
      exact Or.inl ⟨k, e, hk⟩
    · exact Or.inr h
section SEG
variable {A0 : Nat → Prop} {D : va_G} {cl : List vw_C} {gs gi go : List va_W} {is : List Nat} {H H1 : Heap}
theorem seg_P (hP : va_P D cl (cat gs) H) (hn : va_nd is = true) (hi : is.map (fun i => gs[i]?) = gi.map some) : va_P D cl (cat gi) H :=
  P_iff.mpr fun q hq => P_iff.mp hP q ((seg_split hn hi).mem_iff.mpr (List.mem_append_left _ hq))
theorem seg_D (hD : va_D A0 (cat gs)) (hn : va_nd is = true) (hi : is.map (fun i => gs[i]?) = gi.map some) : va_D A0 (cat gi) := by
  rw [D_iff] at hD ⊢
  have hp := (seg_split hn hi).map Prod.fst
  have h1 := (hp.nodup_iff.mp hD.1)
  rw [List.map_append, List.nodup_append] at h1
  exact ⟨h1.1, fun q hq => hD.2 q ((seg_split hn hi).mem_iff.mpr (List.mem_append_left _ hq))⟩
theorem seg_F {H0 : Heap} {locs : List Loc} (hD : va_D A0 (cat gs)) (hS : va_S A0 H0 H locs) (hA : ∀ q, H0.size ≤ q → A0 q) (hn : va_nd is = true) (hi : is.map (fun i => gs[i]?) = gi.map some) : ∀ q, va_A (cat gi) H.size q → A0 q := by
  intro q hq
  rcases va_A_iff.mp hq with h | h
  · obtain ⟨x, h1, rfl⟩ := List.mem_map.mp h
    exact (D_iff.mp (seg_D hD hn hi)).2 x h1
  · exact hA q (Nat.le_trans hS.1 h)
theorem seg_join (hP : va_P D cl (cat gs) H) (hD : va_D A0 (cat gs)) (hn : va_nd is = true) (hi : is.map (fun i => gs[i]?) = gi.map some) (hlen : gi.length = go.length)
    (hk : ∀ q : Nat, q < H.size → ¬ va_A (cat gi) H.size q → H1[q]? = H[q]?) (hF : ∀ q, va_A (cat gi) H.size q → A0 q) (hP1 : va_P D cl (cat go) H1) (hD1 : va_D (va_A (cat gi) H.size) (cat go)) :
    va_P D cl (cat (sets gs is go)) H1 ∧ va_D A0 (cat (sets gs is go)) := by
  have e : (gi.map fun _ => ([] : va_W)) = go.map fun _ => [] := by
    rw [List.map_const', List.map_const', hlen]
  have hs := seg_split hn hi
  have ht := sets_perm is gs go hn ((seg_len hi).trans hlen) (seg_lt hi)
  rw [e] at hs
  generalize cat (sets gs is (go.map fun _ => [])) = Rt at hs ht
  have hDn := D_iff.mp hD
  have hnd := (hs.map Prod.fst).nodup_iff.mp hDn.1
  rw [List.map_append, List.nodup_append] at hnd
  have apart : ∀ q ∈ Rt, q.1 < H.size ∧ ¬ va_A (cat gi) H.size q.1 := by
    intro q hq
    have hl := (P_iff.mp hP q (hs.mem_iff.mpr (List.mem_append_right _ hq))).lt
    refine ⟨hl, fun h => ?_⟩
    rcases va_A_iff.mp h with h | h
    · exact hnd.2.2 _ h _ (List.mem_map.mpr ⟨q, hq, rfl⟩) rfl
    · omega
  constructor
  · refine P_iff.mpr fun q hq => ?_
    rcases List.mem_append.mp (ht.mem_iff.mp hq) with h | h
    · exact P_iff.mp hP1 q h
    · obtain ⟨g1, g2⟩ := apart q h
      exact (P_iff.mp hP q (hs.mem_iff.mpr (List.mem_append_right _ h))).kept (hk q.1 g1 g2)
  · refine D_iff.mpr ⟨(ht.map Prod.fst).nodup_iff.mpr ?_, fun q hq => ?_⟩
    · rw [List.map_append, List.nodup_append]
      refine ⟨(D_iff.mp hD1).1, hnd.2.1, ?_⟩
      intro a ha b hb hab
      subst hab
      obtain ⟨x, hx, rfl⟩ := List.mem_map.mp ha
      obtain ⟨y, hy, e2⟩ := List.mem_map.mp hb
      exact (apart y hy).2 (by rw [e2]; exact (D_iff.mp hD1).2 x hx)
    · rcases List.mem_append.mp (ht.mem_iff.mp hq) with h | h
      · exact hF _ ((D_iff.mp hD1).2 q h)
      · exact hDn.2 q (hs.mem_iff.mpr (List.mem_append_right _ h))
end SEG

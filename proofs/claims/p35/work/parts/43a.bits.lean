/-! ===== small rows for the other turns ===== -/
theorem i_ltn {x : Int32} (h : ¬ x ≤ 0) : 0 < x := by
  rw [Int32.le_iff_toInt_le] at h
  rw [Int32.lt_iff_toInt_lt]
  omega
theorem i_len {x : Int32} (h : x ≤ 0) : ¬ 0 < x := by
  rw [Int32.le_iff_toInt_le] at h
  rw [Int32.lt_iff_toInt_lt]
  omega
theorem i_gel {x : Int32} (h : ¬ x < 0) : 0 ≤ x := by
  rw [Int32.lt_iff_toInt_lt] at h
  rw [Int32.le_iff_toInt_le]
  omega
theorem i_ltg {x : Int32} (h : x < 0) : ¬ 0 ≤ x := by
  rw [Int32.lt_iff_toInt_lt] at h
  rw [Int32.le_iff_toInt_le]
  omega
theorem co_add {st : Int32} {q r : Nat → Int32} {i x : Nat} : x + (if st = 2 then (if q i = r i then 0 else if 0 ≤ r i then 1 else 0) else 0) = coF st q r i x := by
  unfold coF
  by_cases c1 : st = 2
  · rw [if_pos c1, if_pos c1]
    by_cases c2 : q i = r i
    · rw [if_pos c2, if_pos c2]; rfl
    · rw [if_neg c2, if_neg c2]
      by_cases c3 : 0 ≤ r i
      · rw [if_pos c3, if_pos c3]
      · rw [if_neg c3, if_neg c3]; rfl
  · rw [if_neg c1, if_neg c1]; rfl
theorem dl_1 {p w : Nat → Int32} {i : Nat} {z : Int32 × Int32} : z.1 + (if w i < 0 then 0 else p i) = (dlF p w i z).1 := by
  unfold dlF
  by_cases c : w i < 0
  · rw [if_pos c, if_pos c]; exact Int32.add_zero _
  · rw [if_neg c, if_neg c]
theorem dl_2 {p w : Nat → Int32} {i : Nat} {z : Int32 × Int32} : z.2 + (if w i < 0 then 1 else 0) = (dlF p w i z).2 := by
  unfold dlF
  by_cases c : w i < 0
  · rw [if_pos c, if_pos c]
  · rw [if_neg c, if_neg c]; exact Int32.add_zero _
theorem upd_of {f g : Nat → Int32} {k : Nat} {v : Int32} (h1 : f k = v) (h2 : ∀ j, j ≠ k → f j = g j) : f = upd g k v := by
  funext j
  by_cases e : j = k
  · rw [e, h1, pk_us]
  · rw [pk_un e]; exact h2 j e

/-! ===== in(v, low, high) on ints widened to longs ===== -/
theorem lgc_lt (x y : Int64) : (lg_cmp x y < 0) ↔ x < y := by
  unfold lg_cmp
  by_cases h1 : y < x
  · have h2 : ¬ x < y := fun h => by
      rw [Int64.lt_iff_toInt_lt] at h h1
      omega
    simp only [gt_iff_lt, h1, if_true, h2, iff_false]
    decide
  · by_cases h2 : x = y
    · subst h2
      simp only [gt_iff_lt, h1, if_false, if_true, iff_false]
      decide
    · have h3 : x < y := by
        rw [Int64.lt_iff_toInt_lt] at h1 ⊢
        have : x.toInt ≠ y.toInt := fun e => h2 (Int64.toInt_inj.mp e)
        omega
      simp only [gt_iff_lt, h1, h2, if_false, h3, iff_true]
      decide
theorem lgc_gt (x y : Int64) : (0 < lg_cmp x y) ↔ y < x := by
  unfold lg_cmp
  by_cases h1 : y < x
  · simp only [gt_iff_lt, h1, if_true, iff_true]
    decide
  · by_cases h2 : x = y
    · subst h2
      simp only [gt_iff_lt, h1, if_false, if_true, iff_false]
      decide
    · simp only [gt_iff_lt, h1, h2, if_false, iff_false]
      decide
theorem qX8_in (v a b : Int64) : pX8_in v a b = some (nI (if a ≤ v ∧ v ≤ b then 1 else 0)) := by
  unfold pX8_in pX8_in_17 pX8_in_18
  by_cases h1 : v < a
  · rw [if_pos ((lgc_lt v a).mpr h1), if_neg (fun h => by
      have := h.1
      rw [Int64.le_iff_toInt_le] at this
      rw [Int64.lt_iff_toInt_lt] at h1
      omega)]
    rfl
  · rw [if_neg (fun h => h1 ((lgc_lt v a).mp h))]
    by_cases h2 : b < v
    · rw [if_pos ((lgc_gt v b).mpr h2), if_neg (fun h => by
        have := h.2
        rw [Int64.le_iff_toInt_le] at this
        rw [Int64.lt_iff_toInt_lt] at h2
        omega)]
      rfl
    · rw [if_neg (fun h => h2 ((lgc_gt v b).mp h)), if_pos (by
        rw [Int64.le_iff_toInt_le, Int64.le_iff_toInt_le]
        rw [Int64.lt_iff_toInt_lt] at h1 h2
        omega)]
      rfl

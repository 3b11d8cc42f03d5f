theorem fw_le (a b : Int32) : a.toInt64 ≤ b.toInt64 ↔ a ≤ b := fa_wide_le a b
theorem nI_m1 (n : Nat) : nI n - nI 1 = nI n + (-1) := by
  rw [Int32.sub_eq_add_neg]; rfl
/-- in the bounds 0 to n - 1, for any int -/
theorem in0n {x : Int32} {n : Nat} (hn : n < 100000) : ((0 : Int64) ≤ x.toInt64 ∧ x.toInt64 ≤ (nI n - nI 1).toInt64) ↔ 0 ≤ x.toInt ∧ x.toInt < (n : Int) := by
  rw [show (0 : Int64) = (0 : Int32).toInt64 from rfl, fw_le, fw_le, Int32.le_iff_toInt_le, Int32.le_iff_toInt_le, Int32.toInt_zero]
  have h : (nI n - nI 1).toInt = (n : Int) - 1 := by
    have := pk_sub_toInt (a := n) (b := 1) (by omega) (by omega)
    exact this
  rw [h]
  omega
theorem qX8_isExtra {N : Nat → Nat} (x : Int32) (hN : N 0 ≤ 14) : pX8_isExtra (rI N) x = some (nI (if 0 ≤ x.toInt ∧ x.toInt < (N 0 : Int) then 1 else 0)) := by
  unfold pX8_isExtra
  rw [if_pos ((znb (by omega)).mpr (by omega)), zcl (by omega), rI_at, qX8_in, ob]
  by_cases h : 0 ≤ x.toInt ∧ x.toInt < (N 0 : Int)
  · rw [if_pos ((in0n (by omega)).mpr h), if_pos h]; rfl
  · rw [if_neg (fun h2 => h ((in0n (by omega)).mp h2)), if_neg h]; rfl
theorem qX8_isScene {N : Nat → Nat} (x : Int32) (hN : N 1 ≤ 10) : pX8_isScene (rI N) x = some (nI (if 0 ≤ x.toInt ∧ x.toInt < (N 1 : Int) then 1 else 0)) := by
  unfold pX8_isScene
  rw [if_pos ((znb (by omega)).mpr (by omega)), zcl (by omega), rI_at, qX8_in, ob]
  by_cases h : 0 ≤ x.toInt ∧ x.toInt < (N 1 : Int)
  · rw [if_pos ((in0n (by omega)).mpr h), if_pos h]; rfl
  · rw [if_neg (fun h2 => h ((in0n (by omega)).mp h2)), if_neg h]; rfl

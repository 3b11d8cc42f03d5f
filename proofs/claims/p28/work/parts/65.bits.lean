/-- how many of the bits below n are set -/
def bcN (c : Nat) : Nat → Nat
  | 0 => 0
  | n + 1 => bcN c n + (if c.testBit n then 1 else 0)
theorem zbit {a k : Nat} (ha : a < 2147483648) (hk : k < 31) : (nI a >>> (nI k &&& 31)) &&& nI 1 = nI (if a.testBit k then 1 else 0) := by
  have hs : ((nI k &&& 31).toBitVec.smod 32).toNat = k := by
    rw [zsh (by omega)]
    have : ∀ k, k < 31 → ((nI k).toBitVec.smod 32).toNat = k := by decide +kernel
    exact this k hk
  rw [pk_shrN ha _ k hs, zand, Nat.testBit_eq_decide_div_mod_eq, Nat.and_one_is_mod]
  rcases Nat.mod_two_eq_zero_or_one (a / 2 ^ k) with h | h <;> simp [h]
theorem qX8_bits_4 {c : Nat} (hc : c < 2147483648) : ∀ (k e : Nat), e ≤ 14 → 14 - e < k → pX8_bits_4 k (nI c) (nI (bcN c e)) (nI e) = some (nI (bcN c 14)) := by
  intro k
  induction k with
  | zero => intro e h1 h2; omega
  | succ k ih =>
    intro e h1 h2
    rw [pX8_bits_4_s]
    by_cases he : 14 ≤ e
    · have e1 : e = 14 := by omega
      rw [e1, if_pos ((zle (by omega) (by omega)).mpr (by omega))]
    · rw [if_neg (fun h => he ((zle (by omega) (by omega)).mp h)), zbit hc (by omega), zadd, zadd]
      exact ih (e + 1) (by omega) (by omega)
theorem qX8_bits {c : Nat} (hc : c < 2147483648) : pX8_bits (nI c) = some (nI (bcN c 14)) := qX8_bits_4 hc FU 0 (by omega) (by unfold FU; omega)

theorem bcN_le (c : Nat) : ∀ n, bcN c n ≤ n := by
  intro n
  induction n with
  | zero => simp [bcN]
  | succ n ih => unfold bcN; split <;> omega
def canN (N : Nat → Nat) (s : Nat) : Bool := decide (N (94 + 7 * s + 5) = 0) && decide (N (94 + 7 * s + 1) = bcN (chN N s) 14)
theorem subz {a b : Nat} (ha : a < 1000) (hb : b < 1000) : (nI a - nI b = 0) ↔ a = b := by
  rw [← Int32.toInt_inj, pk_sub_toInt (by omega) (by omega), Int32.toInt_zero]
  omega
theorem qX8_canShoot {N : Nat → Nat} {s : Nat} (hS : Sm N) (hs : s < N 1) (hw : N (94 + 7 * s + 1) < 100) : pX8_canShoot (rI N) (nI s) = some (nI (if canN N s = true then 1 else 0)) := by
  have hN := hS.2.2.1
  have hb := bcN_le (chN N s) 14
  have h5 := hS.1 (94 + 7 * s + 5)
  unfold pX8_canShoot pX8_canShoot_29 pX8_canShoot_30
  rw [qX8_isScene _ hN, nI_toInt (by omega), if_pos (by omega), ob, if_neg (by rw [zeq0 (by decide)]; decide), qX8_told (by omega), ob]
  by_cases h1 : N (94 + 7 * s + 5) = 0
  · rw [if_pos ((zeq0 h5).mpr h1), qX8_lacking hS (by omega) hw, ob]
    by_cases h2 : N (94 + 7 * s + 1) = bcN (chN N s) 14
    · rw [if_pos ((subz (by omega) (by omega)).mpr h2), if_pos (by unfold canN; rw [decide_eq_true h1, decide_eq_true h2]; rfl)]; rfl
    · rw [if_neg (fun h => h2 ((subz (by omega) (by omega)).mp h)), if_neg (by unfold canN; rw [decide_eq_false h2, Bool.and_false]; decide)]; rfl
  · rw [if_neg (fun h => h1 ((zeq0 h5).mp h)), if_neg (by unfold canN; rw [decide_eq_false h1, Bool.false_and]; decide)]; rfl
theorem qX8_canShoot_no {N : Nat → Nat} {x : Int32} (hN : N 1 ≤ 10) (hx : ¬ (0 ≤ x.toInt ∧ x.toInt < (N 1 : Int))) : pX8_canShoot (rI N) x = some (nI 0) := by
  unfold pX8_canShoot pX8_canShoot_29 pX8_canShoot_30
  rw [qX8_isScene _ hN, if_neg hx, ob, if_pos (by rw [zeq0 (by decide)])]
  rfl

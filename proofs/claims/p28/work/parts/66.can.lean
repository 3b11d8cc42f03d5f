theorem ch2_lt {N : Nat → Nat} {s kb : Nat} (hS : Sm N) : ∀ (j c : Nat), c < 16384 → ch2 N s kb j c < 16384 := by
  intro j
  induction j with
  | zero => intro c hc; exact hc
  | succ j ih =>
    intro c hc
    unfold ch2
    cases hq : frsN N s (kb ||| fcsU N c (N 0)) (N 0) with
    | none => exact hc
    | some e => exact ih _ (or14 hc (pw14 (by have := frsN_lt hq; have := hS.2.1; omega)))
theorem ch1_lt {N : Nat → Nat} {s kn ba w : Nat} (hS : Sm N) : ∀ (j f c n : Nat), c < 16384 → (ch1 N s kn ba w j f c n).1 < 16384 := by
  intro j
  induction j with
  | zero => intro f c n hc; exact hc
  | succ j ih =>
    intro f c n hc
    unfold ch1
    split
    · cases hq : (if kn.testBit f = true ∧ ba.testBit f = false then lowN N s f (N 0) 0 else none) with
      | none => exact ih _ _ _ hc
      | some e =>
        refine ih _ _ _ (or14 hc (pw14 ?_))
        split at hq
        · have := lowN_lt hq; have := hS.2.1; omega
        · cases hq
    · exact hc
theorem chN_lt {N : Nat → Nat} {s : Nat} (hS : Sm N) : chN N s < 16384 := ch2_lt hS _ _ (ch1_lt hS _ _ _ _ (by omega))
theorem qX8_lacking {N : Nat → Nat} {s : Nat} (hS : Sm N) (hs : s < 10) (hw : N (94 + 7 * s + 1) < 100) : pX8_lacking (rI N) (nI s) = some (nI (N (94 + 7 * s + 1)) - nI (bcN (chN N s) 14)) := by
  have := chN_lt (s := s) hS
  unfold pX8_lacking
  rw [qX8_told (by omega), ob, qX8_choose hS hs hw, ob, qX8_bits (by omega), ob]

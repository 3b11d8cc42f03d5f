/-- is the scene k one whose crowd counts for s, here or elsewhere -/
def cntB (N : Nat → Nat) (s : Nat) (sm : Bool) (k : Nat) : Bool := decide (k ≠ s) && decide (N (94 + 7 * k + 5) = 1) && decide (N (94 + 7 * k + 2) = N (94 + 7 * s + 2)) && (decide (N (94 + 7 * k + 3) = N (94 + 7 * s + 3)) == sm)
def seenU (N : Nat → Nat) (s : Nat) (sm : Bool) : Nat → Nat
  | 0 => 0
  | k + 1 => seenU N s sm k ||| (if cntB N s sm k then fcsU N (N (94 + 7 * k + 6)) (N 0) else 0)
theorem qX8_seen_5 {N : Nat → Nat} {s : Nat} {sm : Bool} (hS : Sm N) (hs : s < 10) : ∀ (k e : Nat), e ≤ N 1 → N 1 - e < k → pX8_seen_5 k (rI N) (nI s) (nI (if sm then 1 else 0)) (nI (seenU N s sm e)) (nI e) = some (nI (seenU N s sm (N 1))) := by
  have hN := hS.2.2.1
  have hB := hS.1
  intro k
  induction k with
  | zero => intro e h1 h2; omega
  | succ k ih =>
    intro e h1 h2
    rw [pX8_seen_5_s]
    by_cases he : N 1 ≤ e
    · have e1 : e = N 1 := by omega
      have := hB 1
      simp (disch := omega) only [znb, zcl, rI_at, zle, if_pos, e1]
    · have h3 := ih (e + 1) (by omega) (by omega)
      have b1 := hB 1
      have b2 := hB (94 + 7 * e + 5)
      have b3 := hB (94 + 7 * e + 2)
      have b4 := hB (94 + 7 * s + 2)
      have b5 := hB (94 + 7 * e + 3)
      have b6 := hB (94 + 7 * s + 3)
      have b7 := hS.2.2.2.2.2.2.2 e (by omega)
      unfold pX8_seen_75 pX8_seen_67 pX8_seen_76 pX8_seen_100
      simp (disch := omega) only [znb, zcl, rI_at, zle, if_pos, if_neg, he, qX8_told, ob, zadd, zeq, zeq0, zor, qX8_facesOf hS.2.1 hS.2.2.2.1]
      by_cases c1 : e = s
      · rw [if_pos c1]
        rw [show seenU N s sm (e + 1) = seenU N s sm e ||| 0 from by simp [seenU, cntB, c1]] at h3
        exact h3
      · rw [if_neg c1]
        by_cases c2 : N (94 + 7 * e + 5) = 1
        · rw [if_pos c2]
          by_cases c3 : N (94 + 7 * e + 2) = N (94 + 7 * s + 2)
          · rw [if_pos c3]
            by_cases c4 : N (94 + 7 * e + 3) = N (94 + 7 * s + 3)
            · rw [if_pos c4]
              cases sm with
              | true =>
                rw [show seenU N s true (e + 1) = seenU N s true e ||| fcsU N (N (94 + 7 * e + 6)) (N 0) from by simp [seenU, cntB, c1, c2, c3, c4]] at h3
                simpa using h3
              | false =>
                rw [show seenU N s false (e + 1) = seenU N s false e ||| 0 from by simp [seenU, cntB, c4]] at h3
                have hne : ¬ (nI 1 = nI 0) := by decide
                simp (disch := omega) only [hne, if_false, pX8_seen_75, pX8_seen_76, pX8_seen_100, zeq0, if_true, zor, zadd, Bool.false_eq_true]
                simpa using h3
            · rw [if_neg c4]
              cases sm with
              | true =>
                rw [show seenU N s true (e + 1) = seenU N s true e ||| 0 from by simp [seenU, cntB, c4]] at h3
                have hne : ¬ (nI 0 = nI 1) := by decide
                simp (disch := omega) only [hne, if_false, pX8_seen_75, pX8_seen_76, pX8_seen_100, zeq0, if_true, zor, zadd]
                simpa using h3
              | false =>
                rw [show seenU N s false (e + 1) = seenU N s false e ||| fcsU N (N (94 + 7 * e + 6)) (N 0) from by simp [seenU, cntB, c1, c2, c3, c4]] at h3
                simpa using h3
          · rw [if_neg c3]
            rw [show seenU N s sm (e + 1) = seenU N s sm e ||| 0 from by simp [seenU, cntB, c3]] at h3
            exact h3
        · rw [if_neg c2]
          rw [show seenU N s sm (e + 1) = seenU N s sm e ||| 0 from by simp [seenU, cntB, c2]] at h3
          exact h3
theorem qX8_seen {N : Nat → Nat} {s : Nat} {sm : Bool} (hS : Sm N) (hs : s < 10) : pX8_seen (rI N) (nI s) (nI (if sm then 1 else 0)) = some (nI (seenU N s sm (N 1))) :=
  qX8_seen_5 hS hs FU 0 (by omega) (by have := hS.2.2.1; unfold FU; omega)

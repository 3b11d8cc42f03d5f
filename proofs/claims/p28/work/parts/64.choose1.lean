theorem lowN_lt {N : Nat → Nat} {s f : Nat} : ∀ {r e0 e : Nat}, lowN N s f r e0 = some e → e < e0 + r := by
  intro r
  induction r with
  | zero => intro e0 e h; simp [lowN] at h
  | succ r ih =>
    intro e0 e h
    unfold lowN at h
    split at h
    · cases h; omega
    · have := ih h; omega
/-- the known faces, one after the other from f on: the crowd, and how many are in it -/
def ch1 (N : Nat → Nat) (s kn ba w : Nat) : Nat → Nat → Nat → Nat → Nat × Nat
  | 0, _, c, n => (c, n)
  | j + 1, f, c, n => if n < w then (match (if kn.testBit f = true ∧ ba.testBit f = false then lowN N s f (N 0) 0 else none) with
    | none => ch1 N s kn ba w j (f + 1) c n
    | some e => ch1 N s kn ba w j (f + 1) (c ||| 2 ^ e) (n + 1)) else (c, n)
def ch12 (N : Nat → Nat) (s kn ba w : Nat) (p : Nat × Nat) : Nat := ch2 N s (kn ||| ba) (w - p.2) p.1
theorem qX8_choose_31 {N : Nat → Nat} {s kn ba w : Nat} (hS : Sm N) (hs : s < 10) (hkn : kn < 16384) (hba : ba < 16384) (hw : w < 100) : ∀ (k j f c n : Nat), f + j = 14 → j < k → n ≤ w → c < 16384 → pX8_choose_31 k (rI N) (nI s) (nI kn) (nI ba) (nI w) (nI c) (nI n) (nI f) = some (nI (ch12 N s kn ba w (ch1 N s kn ba w j f c n))) := by
  have hN := hS.2.1
  intro k
  induction k with
  | zero => intro j f c n h1 h2; omega
  | succ k ih =>
    intro j f c n h1 h2 hn hc
    have hend : pX8_choose_117 (rI N) (nI s) (nI kn) (nI ba) (nI w) (nI c) (nI n) = some (nI (ch12 N s kn ba w (c, n))) :=
      qX8_choose_120 hS hs hkn hba hw FU (w - n) c n 0 (by omega) (by unfold FU; omega) hc (by omega)
    rw [pX8_choose_31_s]
    cases j with
    | zero =>
      rw [if_pos ((zle (by omega) (by omega)).mpr (by omega))]
      exact hend
    | succ j =>
      rw [if_neg (fun h => by have := (zle (by omega) (by omega)).mp h; omega)]
      by_cases hnw : w ≤ n
      · rw [if_pos ((zle (by omega) (by omega)).mpr hnw)]
        rw [show ch1 N s kn ba w (j + 1) f c n = (c, n) from by unfold ch1; rw [if_neg (by omega)]]
        exact hend
      · rw [if_neg (fun h => hnw ((zle (by omega) (by omega)).mp h))]
        have hno := ih j (f + 1) c n (by omega) (by omega) hn hc
        have none_ : (if kn.testBit f = true ∧ ba.testBit f = false then lowN N s f (N 0) 0 else none) = none → pX8_choose_74 (fun u0 u1 u2 u3 u4 u5 u6 u7 => pX8_choose_31 k u0 u1 u2 u3 u4 u5 u6 u7) (rI N) (nI s) (nI kn) (nI ba) (nI w) (nI c) (nI n) (nI f) (-1) = some (nI (ch12 N s kn ba w (ch1 N s kn ba w (j + 1) f c n))) := by
          intro hq
          unfold pX8_choose_74 pX8_choose_92 pX8_choose_108
          rw [if_pos rfl, if_pos rfl, zor, zadd, Nat.or_zero, Nat.add_zero, zadd]
          rw [show ch1 N s kn ba w (j + 1) f c n = ch1 N s kn ba w j (f + 1) c n from by rw [ch1, if_pos (by omega), hq]]
          exact hno
        unfold pX8_choose_73
        rw [qX8_has (by omega) (by omega), ob]
        by_cases hk : kn.testBit f = true
        · rw [if_pos hk, if_neg (by rw [zeq0 (by decide)]; decide), qX8_has (by omega) (by omega), ob]
          by_cases hb : ba.testBit f = true
          · rw [if_pos hb, if_neg (by rw [zeq0 (by decide)]; decide)]
            exact none_ (by simp [hb])
          · rw [if_neg hb, if_pos (by rw [zeq0 (by decide)]), qX8_lowestWith hS hs (by omega), ob]
            have hb' : ba.testBit f = false := by simpa using hb
            cases hq : lowN N s f (N 0) 0 with
            | none => exact none_ (by rw [if_pos ⟨hk, hb'⟩]; exact hq)
            | some e =>
              have he : e < 14 := by have := lowN_lt hq; omega
              have hp := pw14 he
              unfold pX8_choose_74 pX8_choose_92 pX8_choose_108
              rw [show oI (some e) = nI e from rfl, if_neg (fun h => (zm1 (by omega)).mp h), if_neg (fun h => (zm1 (by omega)).mp h), zshl (by omega), Nat.one_mul, zor, zadd, zadd]
              rw [show ch1 N s kn ba w (j + 1) f c n = ch1 N s kn ba w j (f + 1) (c ||| 2 ^ e) (n + 1) from by rw [ch1, if_pos (by omega), if_pos ⟨hk, hb'⟩, hq]]
              exact ih j (f + 1) (c ||| 2 ^ e) (n + 1) (by omega) (by omega) (by omega) (or14 hc hp)
        · rw [if_neg hk, if_pos (by rw [zeq0 (by decide)])]
          exact none_ (by simp [hk])
/-- whom a scene would take -/
def chN (N : Nat → Nat) (s : Nat) : Nat := ch12 N s (seenU N s true (N 1)) (seenU N s false (N 1)) (N (94 + 7 * s + 1)) (ch1 N s (seenU N s true (N 1)) (seenU N s false (N 1)) (N (94 + 7 * s + 1)) 14 0 0 0)
theorem qX8_choose {N : Nat → Nat} {s : Nat} (hS : Sm N) (hs : s < 10) (hw : N (94 + 7 * s + 1) < 100) : pX8_choose (rI N) (nI s) = some (nI (chN N s)) := by
  unfold pX8_choose
  rw [show nI 1 = nI (if true then 1 else 0) from rfl, qX8_seen hS hs, ob, show nI 0 = nI (if false then 1 else 0) from rfl, qX8_seen hS hs, ob]
  rw [show nI (if true then 1 else 0) = nI 1 from rfl, qX8_told (by omega), ob]
  exact qX8_choose_31 hS hs (seenU_lt hS _) (seenU_lt hS _) hw FU 14 0 0 0 (by omega) (by unfold FU; omega) (by omega) (by omega)

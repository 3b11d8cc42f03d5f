theorem or14 {a b : Nat} (ha : a < 16384) (hb : b < 16384) : a ||| b < 16384 := Nat.or_lt_two_pow (n := 14) ha hb
theorem pw14 {e : Nat} (he : e < 14) : 2 ^ e < 16384 := Nat.pow_lt_pow_right (by omega) he
theorem fcsU_lt {N : Nat → Nat} {c : Nat} (hf : ∀ e, e < 14 → N (10 + 6 * e + 1) < 14) : ∀ n, n ≤ 14 → fcsU N c n < 16384 := by
  intro n
  induction n with
  | zero => intro _; simp [fcsU]
  | succ n ih =>
    intro hn
    unfold fcsU
    refine or14 (ih (by omega)) ?_
    split
    · exact pw14 (hf n (by omega))
    · omega
theorem seenU_lt {N : Nat → Nat} {s : Nat} {sm : Bool} (hS : Sm N) : ∀ n, seenU N s sm n < 16384 := by
  intro n
  induction n with
  | zero => simp [seenU]
  | succ n ih =>
    unfold seenU
    refine or14 ih ?_
    split
    · exact fcsU_lt hS.2.2.2.1 _ hS.2.1
    · omega
/-- the crowd filled up with the freshest: j are still wanted -/
def ch2 (N : Nat → Nat) (s kb : Nat) : Nat → Nat → Nat
  | 0, c => c
  | j + 1, c => match frsN N s (kb ||| fcsU N c (N 0)) (N 0) with
    | none => c
    | some e => ch2 N s kb j (c ||| 2 ^ e)
theorem qX8_choose_120 {N : Nat → Nat} {s kn ba w : Nat} (hS : Sm N) (hs : s < 10) (hkn : kn < 16384) (hba : ba < 16384) (hw : w < 100) : ∀ (k j c n z : Nat), n + j = w → j + 1 < k → c < 16384 → z < 100 → pX8_choose_120 k (rI N) (nI s) (nI kn) (nI ba) (nI w) (nI c) (nI n) (nI z) = some (nI (ch2 N s (kn ||| ba) j c)) := by
  have hN := hS.2.1
  intro k
  induction k with
  | zero => intro j c n z h1 h2; omega
  | succ k ih =>
    intro j c n z h1 h2 hc hz
    rw [pX8_choose_120_s]
    have hfc := fcsU_lt (c := c) hS.2.2.2.1 (N 0) hN
    have hkb := or14 hkn hba
    have hfs := or14 hkb hfc
    unfold pX8_choose_188
    cases j with
    | zero =>
      rw [if_pos ((zle (by omega) (by omega)).mpr (by omega))]
      rfl
    | succ j =>
      rw [if_neg (fun h => by have := (zle (by omega) (by omega)).mp h; omega), if_neg (fun h => (zm1 (by omega)).mp h)]
      rw [qX8_facesOf hN hS.2.2.2.1 (by omega), ob, zor, zor, qX8_freshest hS hs (by omega), ob]
      cases hq : frsN N s (kn ||| ba ||| fcsU N c (N 0)) (N 0) with
      | none =>
        rw [show oI none = -1 from rfl, if_pos rfl]
        unfold pX8_choose_166 pX8_choose_182
        rw [if_pos rfl, zor, zadd, Nat.or_zero, Nat.add_zero]
        cases k with
        | zero => omega
        | succ k =>
          dsimp only
          rw [pX8_choose_120_s, if_neg (fun h => by have := (zle (by omega) (by omega)).mp h; omega), if_pos rfl]
          unfold pX8_choose_188
          simp [ch2, hq]
      | some e =>
        have he : e < 14 := by have := frsN_lt hq; omega
        have hp := pw14 he
        rw [show oI (some e) = nI e from rfl, if_neg (fun h => (zm1 (by omega)).mp h), zshl (by omega), Nat.one_mul]
        unfold pX8_choose_166 pX8_choose_182
        rw [if_neg (fun h => (zm1 (by omega)).mp h), zor, zadd]
        rw [show ch2 N s (kn ||| ba) (j + 1) c = ch2 N s (kn ||| ba) j (c ||| 2 ^ e) from by simp [ch2, hq]]
        exact ih j (c ||| 2 ^ e) (n + 1) e (by omega) (by omega) (or14 hc hp) (by omega)

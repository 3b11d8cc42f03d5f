/-! ===== arguments in bounds, copies, a new film ===== -/
theorem inI {v : Int32} {A B : Int64} {a b : Int} (hA : A.toInt = a) (hB : B.toInt = b) : pX8_in v.toInt64 A B = some (nI (if a ≤ v.toInt ∧ v.toInt ≤ b then 1 else 0)) := by
  rw [qX8_in]
  simp only [Int64.le_iff_toInt_le, Int32.toInt_toInt64, hA, hB]
theorem zif {p : Prop} [Decidable p] : (nI (if p then 1 else 0) = 0) ↔ ¬ p := by
  by_cases h : p
  · rw [if_pos h, zeq0 (by decide)]
    constructor
    · intro h2; cases h2
    · intro h2; exact absurd h h2
  · rw [if_neg h, zeq0 (by decide)]
    exact ⟨fun _ => h, fun _ => rfl⟩
/-- an int that is not below 0 is its natural -/
theorem i32nat {x : Int32} (h : 0 ≤ x.toInt) : x = nI x.toInt.toNat := by
  apply Int32.toInt_inj.mp
  have := Int32.toInt_lt x
  rw [nI_toInt (by omega)]
  omega
def neB (x y : Int32) : Bool := decide (0 ≤ x.toInt ∧ x.toInt ≤ 4) && decide (0 ≤ y.toInt ∧ y.toInt ≤ 13)
theorem qX8_isNewExtra (x y : Int32) : pX8_isNewExtra x y = some (nI (if neB x y = true then 1 else 0)) := by
  unfold pX8_isNewExtra pX8_isNewExtra_28 pX8_isNewExtra_29
  rw [inI (a := 0) (b := 4) (by decide) (by decide), ob, inI (a := 0) (b := 13) (by decide) (by decide), ob]
  simp only [zif]
  by_cases h1 : 0 ≤ x.toInt ∧ x.toInt ≤ 4
  · by_cases h2 : 0 ≤ y.toInt ∧ y.toInt ≤ 13
    · rw [if_neg (not_not_intro h1), if_neg (not_not_intro h2), if_pos (by unfold neB; rw [decide_eq_true h1, decide_eq_true h2]; rfl)]; rfl
    · rw [if_neg (not_not_intro h1), if_pos h2, if_neg (by unfold neB; rw [decide_eq_false h2, Bool.and_false]; decide)]; rfl
  · rw [if_pos h1, if_neg (by unfold neB; rw [decide_eq_false h1, Bool.false_and]; decide)]; rfl
def nsB (x y z v w : Int32) : Bool := decide (0 ≤ x.toInt ∧ x.toInt ≤ 4) && decide (1 ≤ y.toInt ∧ y.toInt ≤ 6) && decide (0 ≤ z.toInt ∧ z.toInt ≤ 9) && decide (0 ≤ v.toInt ∧ v.toInt ≤ 3) && decide (10 ≤ w.toInt ∧ w.toInt ≤ 240)
theorem qX8_isNewScene (x y z v w : Int32) : pX8_isNewScene x y z v w = some (nI (if nsB x y z v w = true then 1 else 0)) := by
  unfold pX8_isNewScene pX8_isNewScene_67 pX8_isNewScene_68
  rw [inI (a := 0) (b := 4) (by decide) (by decide), ob, inI (a := 1) (b := 6) (by decide) (by decide), ob, inI (a := 0) (b := 9) (by decide) (by decide), ob, inI (a := 0) (b := 3) (by decide) (by decide), ob, inI (a := 10) (b := 240) (by decide) (by decide), ob]
  simp only [zif]
  unfold nsB
  by_cases h1 : 0 ≤ x.toInt ∧ x.toInt ≤ 4
  · by_cases h2 : 1 ≤ y.toInt ∧ y.toInt ≤ 6
    · by_cases h3 : 0 ≤ z.toInt ∧ z.toInt ≤ 9
      · by_cases h4 : 0 ≤ v.toInt ∧ v.toInt ≤ 3
        · by_cases h5 : 10 ≤ w.toInt ∧ w.toInt ≤ 240
          · simp only [h1, h2, h3, h4, h5, and_self, not_true_eq_false, if_false, decide_true, Bool.and_self, if_true]; rfl
          · rw [if_neg (not_not_intro h1), if_neg (not_not_intro h2), if_neg (not_not_intro h3), if_neg (not_not_intro h4), if_pos h5, decide_eq_false h5, Bool.and_false, if_neg (by decide)]; rfl
        · rw [if_neg (not_not_intro h1), if_neg (not_not_intro h2), if_neg (not_not_intro h3), if_pos h4, decide_eq_false h4, Bool.and_false, Bool.false_and, if_neg (by decide)]; rfl
      · rw [if_neg (not_not_intro h1), if_neg (not_not_intro h2), if_pos h3, decide_eq_false h3, Bool.and_false, Bool.false_and, Bool.false_and, if_neg (by decide)]; rfl
    · rw [if_neg (not_not_intro h1), if_pos h2, decide_eq_false h2, Bool.and_false, Bool.false_and, Bool.false_and, Bool.false_and, if_neg (by decide)]; rfl
  · rw [if_pos h1, decide_eq_false h1, Bool.false_and, Bool.false_and, Bool.false_and, Bool.false_and, if_neg (by decide)]; rfl
/-- may a setting have this value -/
def stB (x v : Int32) : Bool := (decide (x = nI 0) && decide (240 ≤ v.toInt ∧ v.toInt ≤ 960)) || (decide (x = nI 1) && decide (1 ≤ v.toInt ∧ v.toInt ≤ 99)) || (decide (x = nI 2) && decide (0 ≤ v.toInt ∧ v.toInt ≤ 99))
theorem qX8_isSetting (x v : Int32) : pX8_isSetting x v = some (nI (if stB x v = true then 1 else 0)) := by
  have h01 : ¬ (nI 0 = nI 1) := by decide
  have h02 : ¬ (nI 0 = nI 2) := by decide
  have h10 : ¬ (nI 1 = nI 0) := by decide
  have h12 : ¬ (nI 1 = nI 2) := by decide
  have h20 : ¬ (nI 2 = nI 0) := by decide
  have h21 : ¬ (nI 2 = nI 1) := by decide
  have hz : (0 : Int32) = nI 0 := rfl
  unfold pX8_isSetting pX8_isSetting_18 pX8_isSetting_35 pX8_isSetting_52 pX8_isSetting_56 pX8_isSetting_57
  rw [inI (a := 240) (b := 960) (by decide) (by decide), ob, inI (a := 1) (b := 99) (by decide) (by decide), ob, inI (a := 0) (b := 99) (by decide) (by decide), ob]
  simp only [zif]
  unfold stB
  rw [hz]
  by_cases e0 : x = nI 0
  · subst e0
    by_cases h : 240 ≤ v.toInt ∧ v.toInt ≤ 960
    · simp [h, h01, h02]; rfl
    · simp [h, h01, h02]; rfl
  · by_cases e1 : x = nI 1
    · subst e1
      by_cases h : 1 ≤ v.toInt ∧ v.toInt ≤ 99
      · simp [h, h10, h12]; rfl
      · simp [h, h10, h12]; rfl
    · by_cases e2 : x = nI 2
      · subst e2
        by_cases h : 0 ≤ v.toInt ∧ v.toInt ≤ 99
        · simp [h, h20, h21]; rfl
        · simp [h, h20, h21]; rfl
      · simp [e0, e1, e2]; rfl
/-- 164 cells of one row, from a on, laid into another, from b on; n of them so far -/
def cpK (r0 r2 : Nat → Int32) (a b n : Nat) : Nat → Int32 := fun j => if b ≤ j ∧ j < b + n then r0 (a + (j - b)) else r2 j
theorem cpK_step (r0 r2 : Nat → Int32) (a b n : Nat) : upd (cpK r0 r2 a b n) (b + n) (r0 (a + n)) = cpK r0 r2 a b (n + 1) := by
  funext j
  unfold upd cpK
  by_cases h : j = b + n
  · subst h
    rw [if_pos rfl, if_pos (by omega), Nat.add_sub_cancel_left]
  · rw [if_neg h]
    by_cases h2 : b ≤ j ∧ j < b + n
    · rw [if_pos h2, if_pos (by omega)]
    · rw [if_neg h2, if_neg (by omega)]
theorem qX8_copyState_3 {n0 n2 a b : Nat} {r0 r2 : Nat → Int32} (ha : a + 164 ≤ n0) (hb : b + 164 ≤ n2) (h0 : n0 < 100000) (h2 : n2 < 100000) : ∀ (k i : Nat), i ≤ 164 → 164 - i < k → pX8_copyState_3 k n0 r0 n2 (cpK r0 r2 a b i) (nI a) (nI b) (nI i) = some (cpK r0 r2 a b 164) := by
  intro k
  induction k with
  | zero => intro i h1 h2; omega
  | succ k ih =>
    intro i h3 h4
    rw [pX8_copyState_3_s]
    by_cases hi : 164 ≤ i
    · have e1 : i = 164 := by omega
      rw [if_pos ((zle (by omega) (by omega)).mpr hi), e1]
    · rw [if_neg (fun h => hi ((zle (by omega) (by omega)).mp h)), zadd, zadd, zadd, if_pos ((znb (by omega)).mpr (by omega)), if_pos ((znb (by omega)).mpr (by omega)), zcl (by omega), zcl (by omega), cpK_step]
      exact ih (i + 1) (by omega) (by omega)
theorem cpK_zero (r0 r2 : Nat → Int32) (a b : Nat) : cpK r0 r2 a b 0 = r2 := by
  funext j
  unfold cpK
  rw [if_neg (by omega)]
theorem qX8_copyState {n0 n2 a b : Nat} {r0 r2 : Nat → Int32} (ha : a + 164 ≤ n0) (hb : b + 164 ≤ n2) (h0 : n0 < 100000) (h2 : n2 < 100000) : pX8_copyState n0 r0 n2 r2 (nI a) (nI b) = some (cpK r0 r2 a b 164) := by
  have h := qX8_copyState_3 (r0 := r0) (r2 := r2) ha hb h0 h2 FU 0 (by omega) (by unfold FU; omega)
  rw [cpK_zero] at h
  exact h
/-- a row of 164 cells -/
def Z164 (N : Nat → Nat) : Prop := ∀ j, 164 ≤ j → N j = 0
theorem cpK_all {N M : Nat → Nat} (hN : Z164 N) (hM : Z164 M) : cpK (rI N) (rI M) 0 0 164 = rI N := by
  funext j
  unfold cpK
  by_cases h : 0 ≤ j ∧ j < 0 + 164
  · rw [if_pos h]
    show rI N (0 + (j - 0)) = rI N j
    rw [Nat.zero_add, Nat.sub_zero]
  · rw [if_neg h, rI_at, rI_at, hN j (by omega), hM j (by omega)]
theorem qX8_copyAll {N M : Nat → Nat} (hN : Z164 N) (hM : Z164 M) : pX8_copyState 164 (rI N) 164 (rI M) (nI 0) (nI 0) = some (rI N) := by
  rw [qX8_copyState (by omega) (by omega) (by omega) (by omega), cpK_all hN hM]
/-- a new film -/
def N0 : Nat → Nat := nset (nset (nset (fun _ => 0) 7 600) 8 10) 9 5
def clK (M : Nat → Nat) (n : Nat) : Nat → Nat := fun j => if j < n then 0 else M j
theorem clK_step (M : Nat → Nat) (n : Nat) : nset (clK M n) n 0 = clK M (n + 1) := by
  funext j
  unfold nset clK
  by_cases h : j = n
  · rw [if_pos h, if_pos (by omega)]
  · rw [if_neg h]
    by_cases h2 : j < n
    · rw [if_pos h2, if_pos (by omega)]
    · rw [if_neg h2, if_neg (by omega)]
theorem clK_end {M : Nat → Nat} (hM : Z164 M) : clK M 164 = fun _ => 0 := by
  funext j
  unfold clK
  split
  · rfl
  · exact hM j (by omega)
theorem qX8_clear_2 {M : Nat → Nat} (hM : Z164 M) : ∀ (k i : Nat), i ≤ 164 → 164 - i < k → pX8_clear_2 k (rI (clK M i)) (nI i) = some (rI N0) := by
  intro k
  induction k with
  | zero => intro i h1 h2; omega
  | succ k ih =>
    intro i h1 h2
    rw [pX8_clear_2_s]
    by_cases hi : 164 ≤ i
    · have e1 : i = 164 := by omega
      rw [e1, clK_end hM]
      simp (disch := omega) only [znb, zcl, zle, if_pos, rI_upd]
      rfl
    · rw [if_neg (fun h => hi ((zle (by omega) (by omega)).mp h)), if_pos ((znb (by omega)).mpr (by omega)), zcl (by omega), rI_upd, clK_step, zadd]
      exact ih (i + 1) (by omega) (by omega)
theorem qX8_clear {M : Nat → Nat} (hM : Z164 M) : pX8_clear (rI M) = some (rI N0) := by
  have h := qX8_clear_2 hM FU 0 (by omega) (by unfold FU; omega)
  rw [show clK M 0 = M from by funext j; unfold clK; rw [if_neg (by omega)]] at h
  exact h

/-! ===== spent, extraOn, sceneOn, mealOn, nextOn ===== -/
theorem nset_id {N : Nat → Nat} {k v : Nat} (h : N k = v) : nset N k v = N := by
  funext j
  unfold nset
  split
  · rename_i hj; rw [hj, h]
  · rfl
theorem qX8_spent {N : Nat → Nat} : pX8_spent (rI N) = some (nI (N 3 + N 4)) := by
  unfold pX8_spent
  simp (disch := omega) only [znb, zcl, if_pos, rI_at, zadd]
/-- one extra more -/
def exN (N : Nat → Nat) (look face : Nat) : Nat → Nat := nset (nset (nset N (10 + 6 * N 0 + 0) look) (10 + 6 * N 0 + 1) face) 0 (N 0 + 1)
theorem qX8_extraOn_7 {N : Nat → Nat} {look face : Nat} (hn : N 0 < 14) (hz : ∀ k, k < 6 → N (10 + 6 * N 0 + k) = 0) : ∀ (k i : Nat), i ≤ 6 → 6 - i < k → pX8_extraOn_7 k (rI N) (nI look) (nI face) (nI (N 0)) (nI i) = some (nI (N 0), rI (exN N look face)) := by
  intro k
  induction k with
  | zero => intro i h1 h2; omega
  | succ k ih =>
    intro i h1 h2
    rw [pX8_extraOn_7_s]
    by_cases hi : 6 ≤ i
    · unfold exN
      simp (disch := omega) only [znb, zcl, rI_at, zle, if_pos, qX8_lay, ob, zadd, rI_upd, nset_ne]
    · rw [if_neg (fun h => hi ((zle (by omega) (by omega)).mp h)), qX8_lay (by omega), ob, nset_id (hz i (by omega)), zadd]
      exact ih (i + 1) (by omega) (by omega)
theorem qX8_extraOn {t : Nat} {N : Nat → Nat} {look face : Nat} (h : Inv t N) (hn : N 0 < 14) : pX8_extraOn (rI N) (nI look) (nI face) = some (nI (N 0), rI (exN N look face)) := by
  unfold pX8_extraOn
  rw [if_pos ((znb (by omega)).mpr (by omega)), zcl (by omega), rI_at]
  exact qX8_extraOn_7 hn (fun k hk => h.ez (N 0) k (by omega) hn hk) FU 0 (by omega) (by unfold FU; omega)
/-- one scene more -/
def scN (N : Nat → Nat) (look many day place minutes : Nat) : Nat → Nat :=
  nset (nset (nset (nset (nset (nset N (94 + 7 * N 1) look) (94 + 7 * N 1 + 1) many) (94 + 7 * N 1 + 2) day) (94 + 7 * N 1 + 3) place) (94 + 7 * N 1 + 4) minutes) 1 (N 1 + 1)
theorem qX8_sceneOn {t : Nat} {N : Nat → Nat} {look many day place minutes : Nat} (h : Inv t N) (hn : N 1 < 10) : pX8_sceneOn (rI N) (nI look) (nI many) (nI day) (nI place) (nI minutes) = some (nI (N 1), rI (scN N look many day place minutes)) := by
  have h5 := h.sz (N 1) 5 (by omega) hn (by omega)
  have h6 := h.sz (N 1) 6 (by omega) hn (by omega)
  unfold pX8_sceneOn
  simp (disch := omega) only [znb, zcl, rI_at, if_pos, zadd, zmul, rI_upd, nset_ne, nset_eq, zsub, Nat.add_sub_cancel]
  unfold scN
  rw [nset_id (N := nset (nset (nset (nset (nset N (94 + 7 * N 1) look) (94 + 7 * N 1 + 1) many) (94 + 7 * N 1 + 2) day) (94 + 7 * N 1 + 3) place) (94 + 7 * N 1 + 4) minutes) (k := 94 + 7 * N 1 + 5) (v := 0) (by
    simp (disch := omega) only [nset_ne]
    exact h5), nset_id (N := nset (nset (nset (nset (nset N (94 + 7 * N 1) look) (94 + 7 * N 1 + 1) many) (94 + 7 * N 1 + 2) day) (94 + 7 * N 1 + 3) place) (94 + 7 * N 1 + 4) minutes) (k := 94 + 7 * N 1 + 6) (v := 0) (by
    simp (disch := omega) only [nset_ne]
    exact h6)]
/-- how many of those below n had waited too long -/
def lateU (N : Nat → Nat) : Nat → Nat
  | 0 => 0
  | n + 1 => lateU N n + (if N (10 + 6 * n + 3) ≤ 360 then 0 else 1)
/-- those below n have eaten -/
def mlC (N : Nat → Nat) (n : Nat) : Nat → Nat := fun j => if 10 ≤ j ∧ j < 10 + 6 * n ∧ ((j - 10) % 6 = 3 ∨ (j - 10) % 6 = 4) then 0 else N j
theorem mlC_out (N : Nat → Nat) (n : Nat) {j : Nat} (h : j < 10 ∨ 10 + 6 * n ≤ j) : mlC N n j = N j := by
  unfold mlC
  rw [if_neg (by omega)]
theorem mlC_step (N : Nat → Nat) (n : Nat) : nset (nset (mlC N n) (10 + 6 * n + 3) 0) (10 + 6 * n + 4) 0 = mlC N (n + 1) := by
  funext j
  by_cases h4 : j = 10 + 6 * n + 4
  · subst h4
    rw [nset_eq]
    unfold mlC
    rw [if_pos (by omega)]
  rw [nset_ne _ _ h4]
  by_cases h3 : j = 10 + 6 * n + 3
  · subst h3
    rw [nset_eq]
    unfold mlC
    rw [if_pos (by omega)]
  rw [nset_ne _ _ h3]
  unfold mlC
  by_cases h : 10 ≤ j ∧ j < 10 + 6 * n ∧ ((j - 10) % 6 = 3 ∨ (j - 10) % 6 = 4)
  · rw [if_pos h, if_pos (by omega)]
  · rw [if_neg h, if_neg (by omega)]
theorem mlC_zero (N : Nat → Nat) : mlC N 0 = N := by
  funext j
  exact mlC_out N 0 (by omega)
theorem qX8_mealOn_4 {N : Nat → Nat} (hN : N 0 ≤ 14) (hB : ∀ j, N j < 2147483648) : ∀ (k e : Nat), e ≤ N 0 → N 0 - e < k → pX8_mealOn_4 k (rI (mlC N e)) (nI (lateU N e)) (nI e) = some (nI (lateU N (N 0)), rI (mlC N (N 0))) := by
  intro k
  induction k with
  | zero => intro e h1 h2; omega
  | succ k ih =>
    intro e h1 h2
    rw [pX8_mealOn_4_s]
    have w0 : mlC N e 0 = N 0 := mlC_out N e (by omega)
    by_cases he : N 0 ≤ e
    · have e1 : e = N 0 := by omega
      rw [e1] at w0 ⊢
      simp (disch := omega) only [znb, zcl, rI_at, zle, if_pos, w0]
    · have h3 := ih (e + 1) (by omega) (by omega)
      have w3 : mlC N e (10 + 6 * e + 3) = N (10 + 6 * e + 3) := mlC_out N e (by omega)
      have b3 := hB (10 + 6 * e + 3)
      simp (disch := omega) only [znb, zcl, rI_at, zle, if_pos, if_neg, w0, qX8_of, ob, w3]
      unfold pX8_mealOn_29
      simp (disch := omega) only [qX8_lay, ob, zadd, mlC_step]
      by_cases hl : N (10 + 6 * e + 3) ≤ 360
      · rw [if_pos hl]
        rw [show lateU N (e + 1) = lateU N e + 0 from by simp [lateU, hl]] at h3
        exact h3
      · rw [if_neg hl]
        rw [show lateU N (e + 1) = lateU N e + 1 from by simp [lateU, hl]] at h3
        exact h3
theorem qX8_mealOn {N : Nat → Nat} (hN : N 0 ≤ 14) (hB : ∀ j, N j < 2147483648) : pX8_mealOn (rI N) = some (nI (lateU N (N 0)), rI (mlC N (N 0))) := by
  have h := qX8_mealOn_4 hN hB FU 0 (by omega) (by unfold FU; omega)
  rw [mlC_zero] at h
  exact h
/-- the day's minutes of those below n are 0 -/
def nxC (N : Nat → Nat) (n : Nat) : Nat → Nat := fun j => if 10 ≤ j ∧ j < 10 + 6 * n ∧ (j - 10) % 6 = 2 then 0 else N j
theorem nxC_out (N : Nat → Nat) (n : Nat) {j : Nat} (h : j < 10 ∨ 10 + 6 * n ≤ j) : nxC N n j = N j := by
  unfold nxC
  rw [if_neg (by omega)]
theorem nxC_step (N : Nat → Nat) (n : Nat) : nset (nxC N n) (10 + 6 * n + 2) 0 = nxC N (n + 1) := by
  funext j
  by_cases h3 : j = 10 + 6 * n + 2
  · subst h3
    rw [nset_eq]
    unfold nxC
    rw [if_pos (by omega)]
  rw [nset_ne _ _ h3]
  unfold nxC
  by_cases h : 10 ≤ j ∧ j < 10 + 6 * n ∧ (j - 10) % 6 = 2
  · rw [if_pos h, if_pos (by omega)]
  · rw [if_neg h, if_neg (by omega)]
theorem nxC_zero (N : Nat → Nat) : nxC N 0 = N := by
  funext j
  exact nxC_out N 0 (by omega)
theorem qX8_nextOn_7 {M : Nat → Nat} (hN : M 0 ≤ 14) (h2 : M 2 < 1000000000) : ∀ (k e : Nat), e ≤ M 0 → M 0 - e < k → pX8_nextOn_7 k (rI (nxC M e)) (nI e) = some (nI (M 2 + 1), rI (nset (nxC M (M 0)) 2 (M 2 + 1))) := by
  intro k
  induction k with
  | zero => intro e h1 h2; omega
  | succ k ih =>
    intro e h1 h2
    rw [pX8_nextOn_7_s]
    have w0 : nxC M e 0 = M 0 := nxC_out M e (by omega)
    have w2 : nxC M e 2 = M 2 := nxC_out M e (by omega)
    by_cases he : M 0 ≤ e
    · have e1 : e = M 0 := by omega
      simp (disch := omega) only [znb, zcl, rI_at, zle, if_pos, w0, w2, zadd, rI_upd, nset_eq, ← e1]
    · have h3 := ih (e + 1) (by omega) (by omega)
      simp (disch := omega) only [znb, zcl, rI_at, zle, if_pos, if_neg, w0, qX8_lay, ob, zadd, nxC_step]
      exact h3
/-- the next day -/
def nxN (N : Nat → Nat) : Nat → Nat := nset (nxC (mlC N (N 0)) (N 0)) 2 (N 2 + 1)
theorem qX8_nextOn {N : Nat → Nat} (hN : N 0 ≤ 14) (hB : ∀ j, N j < 1000000000) : pX8_nextOn (rI N) = some (nI (N 2 + 1), rI (nxN N)) := by
  have h0 : mlC N (N 0) 0 = N 0 := mlC_out N (N 0) (by omega)
  have h2 : mlC N (N 0) 2 = N 2 := mlC_out N (N 0) (by omega)
  have hb2 := hB 2
  unfold pX8_nextOn
  rw [qX8_mealOn hN (fun j => by have := hB j; omega), ob]
  have h := qX8_nextOn_7 (M := mlC N (N 0)) (by omega) (by omega) FU 0 (by omega) (by unfold FU; omega)
  rw [nxC_zero, h0, h2] at h
  exact h
/-- how many of the scenes below n have been shot -/
def shU (N : Nat → Nat) : Nat → Nat
  | 0 => 0
  | n + 1 => shU N n + N (94 + 7 * n + 5)
theorem qX8_shots_4 {N : Nat → Nat} (hN : N 1 ≤ 10) : ∀ (k e : Nat), e ≤ N 1 → N 1 - e < k → pX8_shots_4 k (rI N) (nI (shU N e)) (nI e) = some (nI (shU N (N 1))) := by
  intro k
  induction k with
  | zero => intro e h1 h2; omega
  | succ k ih =>
    intro e h1 h2
    rw [pX8_shots_4_s]
    by_cases he : N 1 ≤ e
    · have e1 : e = N 1 := by omega
      simp (disch := omega) only [znb, zcl, rI_at, zle, if_pos, e1]
    · have h3 := ih (e + 1) (by omega) (by omega)
      simp (disch := omega) only [znb, zcl, rI_at, zle, if_pos, if_neg, qX8_told, ob, zadd]
      exact h3
theorem qX8_shots {N : Nat → Nat} (hN : N 1 ≤ 10) : pX8_shots (rI N) = some (nI (shU N (N 1))) := qX8_shots_4 hN FU 0 (by omega) (by unfold FU; omega)
/-- one put in place of another -/
def reC (N : Nat → Nat) (s a b : Nat) : Nat := dif (N (94 + 7 * s + 6)) (2 ^ a) ||| 2 ^ b
def reN (N : Nat → Nat) (s a b : Nat) : Nat → Nat := nset N (94 + 7 * s + 6) (reC N s a b)
theorem qX8_replaceOn {N : Nat → Nat} {s a b : Nat} (hs : s < 10) (ha : a < 14) (hb : b < 14) (hc : N (94 + 7 * s + 6) < 16384) : pX8_replaceOn (rI N) (nI s) (nI a) (nI b) = some (nI (reC N s a b), rI (reN N s a b)) := by
  unfold pX8_replaceOn
  rw [qX8_told (by omega), ob, zshl (by omega), zshl (by omega), Nat.one_mul, Nat.one_mul, zdif hc, zor, zmul, zadd, zadd, if_pos ((znb (by omega)).mpr (by omega)), zcl (by omega), rI_upd]
  rfl
def crB (N : Nat → Nat) (s a b : Nat) : Bool :=
  decide (N (94 + 7 * s + 5) ≠ 0) && (N (94 + 7 * s + 6)).testBit a && !(N (94 + 7 * s + 6)).testBit b && decide (N (10 + 6 * b + 0) = N (94 + 7 * s + 0)) &&
  !(fcsU N (dif (N (94 + 7 * s + 6)) (2 ^ a)) (N 0)).testBit (N (10 + 6 * b + 1)) && !(seenU N s false (N 1)).testBit (N (10 + 6 * b + 1))
theorem qX8_canReplace {N : Nat → Nat} {s a b : Nat} (hS : Sm N) (hs : s < 10) (ha : a < 14) (hb : b < 14) : pX8_canReplace (rI N) (nI s) (nI a) (nI b) = some (nI (if crB N s a b = true then 1 else 0)) := by
  have h5 := hS.1 (94 + 7 * s + 5)
  have hc := hS.2.2.2.2.2.2.2 s hs
  have hd := dif_lt (N (94 + 7 * s + 6)) (2 ^ a)
  have hf := hS.2.2.2.1 b hb
  have hfc := fcsU_lt (c := dif (N (94 + 7 * s + 6)) (2 ^ a)) hS.2.2.2.1 (N 0) hS.2.1
  have hse := seenU_lt (s := s) (sm := false) hS (N 1)
  unfold pX8_canReplace pX8_canReplace_45 pX8_canReplace_93 pX8_canReplace_94
  rw [qX8_told (by omega), ob, qX8_told (by omega), ob]
  by_cases c1 : N (94 + 7 * s + 5) = 0
  · rw [if_pos ((zeq0 h5).mpr c1), if_neg (by simp [crB, c1])]
  rw [if_neg (fun h => c1 ((zeq0 h5).mp h)), qX8_has (by omega) (by omega), ob]
  by_cases c2 : (N (94 + 7 * s + 6)).testBit a = true
  rotate_left
  · rw [if_neg c2, if_pos (by rw [zeq0 (by decide)]), if_neg (by simp [crB, c2])]
  rw [if_pos c2, if_neg (by rw [zeq0 (by decide)]; decide), qX8_has (by omega) (by omega), ob]
  by_cases c3 : (N (94 + 7 * s + 6)).testBit b = true
  · rw [if_pos c3, if_neg (by rw [zeq0 (by decide)]; decide), if_neg (by simp [crB, c3])]
  rw [if_neg c3, if_pos (by rw [zeq0 (by decide)]), qX8_fits hS.1 hs hb, ob]
  by_cases c4 : N (10 + 6 * b + 0) = N (94 + 7 * s + 0)
  rotate_left
  · rw [if_neg c4, if_pos (by rw [zeq0 (by decide)]), if_neg (by simp only [crB, decide_eq_false c4, Bool.and_false, Bool.false_and]; decide)]
  rw [if_pos c4, if_neg (by rw [zeq0 (by decide)]; decide), qX8_of (by omega), ob, zshl (by omega), Nat.one_mul, zdif hc, qX8_facesOf hS.2.1 hS.2.2.2.1 (by omega), ob, qX8_has (by omega) (by omega), ob]
  by_cases c5 : (fcsU N (dif (N (94 + 7 * s + 6)) (2 ^ a)) (N 0)).testBit (N (10 + 6 * b + 1)) = true
  · rw [if_pos c5, if_neg (by rw [zeq0 (by decide)]; decide), if_neg (by simp only [crB, c5, Bool.not_true, Bool.and_false, Bool.false_and]; decide)]
    rfl
  rw [if_neg c5, if_pos (by rw [zeq0 (by decide)]), show nI 0 = nI (if false then 1 else 0) from rfl, qX8_seen hS hs, ob, qX8_has (by omega) (by omega), ob]
  by_cases c6 : (seenU N s false (N 1)).testBit (N (10 + 6 * b + 1)) = true
  · rw [if_pos c6, if_neg (c := nI 1 = 0) (by rw [zeq0 (by decide)]; decide), if_neg (c := crB N s a b = true) (by simp only [crB, c6, Bool.not_true, Bool.and_false]; decide)]
    rfl
  rw [if_neg c6, if_pos (c := nI 0 = 0) rfl]
  have e3 : (N (94 + 7 * s + 6)).testBit b = false := by simpa using c3
  have e5 : (fcsU N (dif (N (94 + 7 * s + 6)) (2 ^ a)) (N 0)).testBit (N (10 + 6 * b + 1)) = false := by simpa using c5
  have e6 : (seenU N s false (N 1)).testBit (N (10 + 6 * b + 1)) = false := by simpa using c6
  rw [if_pos (c := crB N s a b = true) (by unfold crB; rw [c2, e3, e5, e6, decide_eq_true c4, decide_eq_true c1]; rfl)]
  rfl

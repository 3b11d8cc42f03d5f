/-! ===== the class's other operations of a film ===== -/
theorem qX0_hasRoomForExtra {n : Nat} (hn : n < 1000) : pX0_hasRoomForExtra (nI n) = some (nI (if n < 14 then 1 else 0)) := by
  unfold pX0_hasRoomForExtra pX0_hasRoomForExtra_14
  by_cases h : 14 ≤ n
  · rw [if_pos ((zle (by omega) (by omega)).mpr h), if_neg (by omega)]; rfl
  · rw [if_neg (fun h2 => h ((zle (by omega) (by omega)).mp h2)), if_pos (by omega)]; rfl
theorem qX0_hasRoomForScene {n : Nat} (hn : n < 1000) : pX0_hasRoomForScene (nI n) = some (nI (if n < 10 then 1 else 0)) := by
  unfold pX0_hasRoomForScene pX0_hasRoomForScene_14
  by_cases h : 10 ≤ n
  · rw [if_pos ((zle (by omega) (by omega)).mpr h), if_neg (by omega)]; rfl
  · rw [if_neg (fun h2 => h ((zle (by omega) (by omega)).mp h2)), if_pos (by omega)]; rfl
theorem qX0_addExtra {N : Nat → Nat} {look face : Nat} (hn : N 0 < 14) : pX0_addExtra (nI (N 0)) (rI (exR N)) (nI look) (nI face) = some (nI (N 0), nI (N 0 + 1), rI (exR (exN N look face))) := by
  unfold pX0_addExtra
  rw [qX0_hasRoomForExtra (by omega), ob, if_pos hn, if_neg (by rw [zeq0 (by decide)]; decide), qX5_put hn (by omega) (by omega) (by omega), ob, rI_upd, exR_set (by omega) hn, qX5_put hn (by omega) (by omega) (by omega), ob, rI_upd, exR_set (by omega) hn, zadd]
  unfold exN
  rw [exR_congr (N := nset (nset (nset N (10 + 6 * N 0 + 0) look) (10 + 6 * N 0 + 1) face) 0 (N 0 + 1)) (M := nset (nset N (10 + 6 * N 0 + 0) look) (10 + 6 * N 0 + 1) face) (fun j h1 _ => nset_ne _ _ (by omega))]
theorem qX0_addExtra_no {N : Nat → Nat} {a b : Int32} (hn : N 0 = 14) : pX0_addExtra (nI (N 0)) (rI (exR N)) a b = some (-1, nI (N 0), rI (exR N)) := by
  unfold pX0_addExtra
  rw [qX0_hasRoomForExtra (by omega), ob, if_neg (c := N 0 < 14) (by omega), if_pos (by rw [zeq0 (by decide)])]
theorem qX0_addScene {N : Nat → Nat} {look many day place minutes : Nat} (hn : N 1 < 10) : pX0_addScene (nI (N 1)) (rI (scR N)) (nI look) (nI many) (nI day) (nI place) (nI minutes) = some (nI (N 1), nI (N 1 + 1), rI (scR (scN N look many day place minutes))) := by
  unfold pX0_addScene
  rw [qX0_hasRoomForScene (by omega), ob, if_pos hn, if_neg (by rw [zeq0 (by decide)]; decide)]
  rw [qX5_put hn (by omega) (by omega) (by omega), ob, rI_upd, scR_set (by omega) hn, qX5_put hn (by omega) (by omega) (by omega), ob, rI_upd, scR_set (by omega) hn, qX5_put hn (by omega) (by omega) (by omega), ob, rI_upd, scR_set (by omega) hn, qX5_put hn (by omega) (by omega) (by omega), ob, rI_upd, scR_set (by omega) hn, qX5_put hn (by omega) (by omega) (by omega), ob, rI_upd, scR_set (by omega) hn, zadd]
  unfold scN
  rw [scR_congr (N := nset (nset (nset (nset (nset (nset N (94 + 7 * N 1) look) (94 + 7 * N 1 + 1) many) (94 + 7 * N 1 + 2) day) (94 + 7 * N 1 + 3) place) (94 + 7 * N 1 + 4) minutes) 1 (N 1 + 1)) (M := nset (nset (nset (nset (nset N (94 + 7 * N 1) look) (94 + 7 * N 1 + 1) many) (94 + 7 * N 1 + 2) day) (94 + 7 * N 1 + 3) place) (94 + 7 * N 1 + 4) minutes) (fun j h1 _ => nset_ne _ _ (by omega))]
  rfl
theorem qX0_addScene_no {N : Nat → Nat} {a b c d e : Int32} (hn : N 1 = 10) : pX0_addScene (nI (N 1)) (rI (scR N)) a b c d e = some (-1, nI (N 1), rI (scR N)) := by
  unfold pX0_addScene
  rw [qX0_hasRoomForScene (by omega), ob, if_neg (c := N 1 < 10) (by omega), if_pos (by rw [zeq0 (by decide)])]
theorem qX0_canExchange {t : Nat} {N : Nat → Nat} {s a b : Nat} (h : Inv t N) (ht : t ≤ 10000) (hs : s < N 1) (ha : a < N 0) (hb : b < N 0) : pX0_canExchange (nI (N 0)) (nI (N 1)) (rI (exR N)) (rI (scR N)) (nI s) (nI a) (nI b) = some (nI (if crB N s a b = true then 1 else 0)) := by
  have hS := h.sm ht
  have hn := h.sn
  have he := h.ec
  have hx := h.sc s (by omega)
  have hf := (h.ex b (by omega)).2.1
  have hse := seenU_lt (s := s) (sm := false) hS (N 1)
  have h0 : nI 0 = 0 := rfl
  unfold pX0_canExchange pX0_canExchange_63 pX0_canExchange_112
  rw [qX0_isScene _ hn, nI_toInt (by omega), if_pos (by omega), ob, if_neg (by rw [zeq0 (by decide)]; decide), qX0_isExtra _ he, nI_toInt (by omega), if_pos (by omega), ob, if_neg (by rw [zeq0 (by decide)]; decide), qX0_isExtra _ he, nI_toInt (by omega), if_pos (by omega), ob, if_neg (by rw [zeq0 (by decide)]; decide), qX0_crowdOf (by omega), ob, qX7_has _ (by omega), ob, nIbit _ (by omega)]
  by_cases c2 : (N (94 + 7 * s + 6)).testBit a = true
  rotate_left
  · rw [if_neg c2, if_pos h0, if_neg (by simp [crB, c2])]
  rw [if_pos c2, if_neg (by rw [zeq0 (by decide)]; decide), qX7_has _ (by omega), ob, nIbit _ (by omega)]
  by_cases c3 : (N (94 + 7 * s + 6)).testBit b = true
  · rw [if_pos c3, if_neg (by rw [zeq0 (by decide)]; decide), if_neg (by simp [crB, c3])]
  rw [if_neg c3, if_pos h0, qX0_withRightLook hS (by omega), ob, qX7_has _ (by omega), ob, nIbit _ (by omega), setU_bit, decide_eq_true hb, Bool.true_and]
  by_cases c4 : N (10 + 6 * b + 0) = N (94 + 7 * s + 0)
  rotate_left
  · rw [decide_eq_false c4, if_neg (c := false = true) (by decide), if_pos h0, if_neg (by simp only [crB, decide_eq_false c4, Bool.and_false, Bool.false_and]; decide)]
  rw [decide_eq_true c4, if_pos (c := true = true) rfl, if_neg (by rw [zeq0 (by decide)]; decide), zshl (by omega), Nat.one_mul, zdif hx.2.2.2.2.2.2.1, qX0_facesN _ hS.2.1 hS.2.2.2.1, ob, show nI 0 = nI (if false then 1 else 0) from rfl, qX0_castOf hS (by omega), ob, qX0_facesN _ hS.2.1 hS.2.2.2.1, ob, fcsU_cast h _ h.sn, show nI (if false then 1 else 0) = nI 0 from rfl, gE (by omega) (by omega), ob, zor, qX7_has _ (by omega), ob, nIbit _ (by omega), Nat.testBit_or]
  have e3 : (N (94 + 7 * s + 6)).testBit b = false := by simpa using c3
  have c1 : N (94 + 7 * s + 5) ≠ 0 := by
    intro h1
    rw [hx.2.2.2.2.2.2.2.1.mp h1, Nat.zero_testBit] at c2
    cases c2
  unfold crB
  rw [c2, e3, decide_eq_true c4, decide_eq_true c1]
  cases (fcsU N (dif (N (94 + 7 * s + 6)) (2 ^ a)) (N 0)).testBit (N (10 + 6 * b + 1)) <;> cases (seenU N s false (N 1)).testBit (N (10 + 6 * b + 1)) <;> rfl
theorem qX0_canExchange_no {N : Nat → Nat} {x y : Int32} {b : Nat} {ex sc : Nat → Int32} (he : N 0 ≤ 14) (hn : N 1 ≤ 10) (hs : ¬ ((0 ≤ x.toInt ∧ x.toInt < (N 1 : Int)) ∧ (0 ≤ y.toInt ∧ y.toInt < (N 0 : Int)))) : pX0_canExchange (nI (N 0)) (nI (N 1)) ex sc x y (nI b) = some (nI 0) := by
  have h0 : nI 0 = 0 := rfl
  unfold pX0_canExchange pX0_canExchange_24
  rw [qX0_isScene _ hn, ob]
  by_cases h1 : 0 ≤ x.toInt ∧ x.toInt < (N 1 : Int)
  · rw [if_pos h1, if_neg (by rw [zeq0 (by decide)]; decide), qX0_isExtra _ he, ob, if_neg (fun h2 => hs ⟨h1, h2⟩), if_pos h0]
  · rw [if_neg h1, if_pos h0]
theorem qX0_exchange {N : Nat → Nat} {s a b : Nat} (hs : s < 10) (ha : a < 14) (hb : b < 14) (hc : N (94 + 7 * s + 6) < 16384) : pX0_exchange (rI (scR N)) (nI s) (nI a) (nI b) = some (nI (reC N s a b), rI (scR (reN N s a b))) := by
  unfold pX0_exchange
  rw [qX0_crowdOf hs, ob, zshl (by omega), zshl (by omega), Nat.one_mul, Nat.one_mul, zdif hc, zor, qX5_put hs (by omega) (by omega) (by omega), ob, rI_upd, scR_crs hs]
  rfl
/-- the lowest that can be put in place of another -/
def inN (N : Nat → Nat) (s a : Nat) : Option Nat := fsP (fun b => crB N s a b) (N 0) 0
theorem qX0_exchangeForLowest_2 {t : Nat} {N : Nat → Nat} {s a : Nat} (h : Inv t N) (ht : t ≤ 10000) (hs : s < N 1) (ha : a < N 0) : ∀ (k r b : Nat), b + r = N 0 → r < k → pX0_exchangeForLowest_2 k (nI (N 0)) (nI (N 1)) (rI (exR N)) (rI (scR N)) (nI s) (nI a) (nI b) = some (match fsP (fun b => crB N s a b) r b with | none => (nI 0, rI (scR N)) | some b => (nI 1, rI (scR (reN N s a b)))) := by
  have he := h.ec
  have hn := h.sn
  intro k
  induction k with
  | zero => intro r b h1 h2; omega
  | succ k ih =>
    intro r b h1 h2
    rw [pX0_exchangeForLowest_2_s]
    cases r with
    | zero => rw [if_pos ((zle (by omega) (by omega)).mpr (by omega))]; rfl
    | succ r =>
      rw [if_neg (fun h => by have := (zle (by omega) (by omega)).mp h; omega), qX0_canExchange h ht hs ha (by omega), ob, fsP]
      by_cases hc : crB N s a b = true
      · rw [if_pos hc, if_neg (by rw [zeq0 (by decide)]; decide), qX0_exchange (by omega) (by omega) (by omega) (h.sc s (by omega)).2.2.2.2.2.2.1, ob, if_pos hc]
      · rw [if_neg hc, if_pos (by rw [zeq0 (by decide)]), zadd, if_neg hc]
        exact ih r (b + 1) (by omega) (by omega)
theorem qX0_exchangeForLowest {t : Nat} {N : Nat → Nat} {s a : Nat} (h : Inv t N) (ht : t ≤ 10000) (hs : s < N 1) (ha : a < N 0) : pX0_exchangeForLowest (nI (N 0)) (nI (N 1)) (rI (exR N)) (rI (scR N)) (nI s) (nI a) = some (match inN N s a with | none => (nI 0, rI (scR N)) | some b => (nI 1, rI (scR (reN N s a b)))) :=
  qX0_exchangeForLowest_2 h ht hs ha FU (N 0) 0 (by omega) (by have := h.ec; unfold FU; omega)
theorem qX0_exchangeForLowest_no {N : Nat → Nat} {x y : Int32} {ex sc : Nat → Int32} (he : N 0 ≤ 14) (hn : N 1 ≤ 10) (hs : ¬ ((0 ≤ x.toInt ∧ x.toInt < (N 1 : Int)) ∧ (0 ≤ y.toInt ∧ y.toInt < (N 0 : Int)))) : pX0_exchangeForLowest (nI (N 0)) (nI (N 1)) ex sc x y = some (nI 0, sc) := by
  have go : ∀ (k b : Nat), b ≤ N 0 → N 0 - b < k → pX0_exchangeForLowest_2 k (nI (N 0)) (nI (N 1)) ex sc x y (nI b) = some (nI 0, sc) := by
    intro k
    induction k with
    | zero => intro b h1 h2; omega
    | succ k ih =>
      intro b h1 h2
      rw [pX0_exchangeForLowest_2_s]
      by_cases hb : N 0 ≤ b
      · rw [if_pos ((zle (by omega) (by omega)).mpr hb)]
      · rw [if_neg (fun h => hb ((zle (by omega) (by omega)).mp h)), qX0_canExchange_no he hn hs, ob, if_pos (by rw [zeq0 (by decide)]), zadd]
        exact ih (b + 1) (by omega) (by omega)
  exact go FU 0 (by omega) (by unfold FU; omega)
theorem qX8_instead_2 {t : Nat} {N : Nat → Nat} {s a : Nat} (h : Inv t N) (ht : t ≤ 10000) (hs : s < 10) (ha : a < 14) : ∀ (k r b : Nat), b + r = N 0 → r < k → pX8_instead_2 k (rI N) (nI s) (nI a) (nI b) = some (oI (fsP (fun b => crB N s a b) r b)) := by
  have hS := h.sm ht
  have he := h.ec
  intro k
  induction k with
  | zero => intro r b h1 h2; omega
  | succ k ih =>
    intro r b h1 h2
    rw [pX8_instead_2_s, if_pos ((znb (by omega)).mpr (by omega)), zcl (by omega), rI_at]
    cases r with
    | zero => rw [if_pos ((zle (by omega) (by omega)).mpr (by omega))]; rfl
    | succ r =>
      rw [if_neg (fun h => by have := (zle (by omega) (by omega)).mp h; omega), qX8_canReplace hS hs ha (by omega), ob, fsP]
      by_cases hc : crB N s a b = true
      · rw [if_pos hc, if_neg (by rw [zeq0 (by decide)]; decide), if_pos hc]; rfl
      · rw [if_neg hc, if_pos (by rw [zeq0 (by decide)]), zadd, if_neg hc]
        exact ih r (b + 1) (by omega) (by omega)
theorem qX8_instead {t : Nat} {N : Nat → Nat} {s a : Nat} (h : Inv t N) (ht : t ≤ 10000) (hs : s < 10) (ha : a < 14) : pX8_instead (rI N) (nI s) (nI a) = some (oI (inN N s a)) :=
  qX8_instead_2 h ht hs ha FU (N 0) 0 (by omega) (by have := h.ec; unfold FU; omega)
/-! ===== meals and days ===== -/
def fkR (F : Nat → Nat) (k c : Nat) : Nat → Nat := fun j => if k * 14 ≤ j ∧ j < k * 14 + c then 0 else F j
theorem fkR_step (F : Nat → Nat) (k c : Nat) : nset (fkR F k c) (k * 14 + c) 0 = fkR F k (c + 1) := by
  funext j
  unfold nset fkR
  by_cases h : j = k * 14 + c
  · rw [if_pos h, if_pos (by omega)]
  · rw [if_neg h]
    by_cases h2 : k * 14 ≤ j ∧ j < k * 14 + c
    · rw [if_pos h2, if_pos (by omega)]
    · rw [if_neg h2, if_neg (by omega)]
theorem qX5_fillKind_2 {F : Nat → Nat} {kd : Nat} (hk : kd < 6) : ∀ (k c : Nat), c ≤ 14 → 14 - c < k → pX5_fillKind_2 k (nI 14) 84 (rI (fkR F kd c)) (nI kd) (nI 0) (nI c) = some (rI (fkR F kd 14)) := by
  intro k
  induction k with
  | zero => intro c h1 h2; omega
  | succ k ih =>
    intro c h1 h2
    rw [pX5_fillKind_2_s]
    by_cases hc : 14 ≤ c
    · rw [if_pos ((zle (by omega) (by omega)).mpr hc), show c = 14 from by omega]
    · rw [if_neg (fun h => hc ((zle (by omega) (by omega)).mp h)), qX5_put (by omega) (by omega) (by omega) (by omega), ob, rI_upd, fkR_step, zadd]
      exact ih (c + 1) (by omega) (by omega)
theorem qX5_fillKind {F : Nat → Nat} {kd : Nat} (hk : kd < 6) : pX5_fillKind (nI 14) 84 (rI F) (nI kd) (nI 0) = some (rI (fkR F kd 14)) := by
  have h := qX5_fillKind_2 (F := F) hk FU 0 (by omega) (by unfold FU; omega)
  rw [show fkR F kd 0 = F from by funext j; unfold fkR; rw [if_neg (by omega)]] at h
  exact h
theorem mlC_at (N : Nat → Nat) (n : Nat) {e k : Nat} (hk : k < 6) : mlC N n (10 + 6 * e + k) = if e < n ∧ (k = 3 ∨ k = 4) then 0 else N (10 + 6 * e + k) := by
  unfold mlC
  have h1 : (10 + 6 * e + k - 10) % 6 = k := by omega
  rw [h1]
  by_cases h : e < n ∧ (k = 3 ∨ k = 4)
  · rw [if_pos h, if_pos (by omega)]
  · rw [if_neg h, if_neg (by omega)]
theorem nxC_at (N : Nat → Nat) (n : Nat) {e k : Nat} (hk : k < 6) : nxC N n (10 + 6 * e + k) = if e < n ∧ k = 2 then 0 else N (10 + 6 * e + k) := by
  unfold nxC
  have h1 : (10 + 6 * e + k - 10) % 6 = k := by omega
  rw [h1]
  by_cases h : e < n ∧ k = 2
  · rw [if_pos h, if_pos (by omega)]
  · rw [if_neg h, if_neg (by omega)]
theorem exR_meal {t : Nat} {N : Nat → Nat} (h : Inv t N) : fkR (fkR (exR N) 3 14) 4 14 = exR (mlC N (N 0)) := by
  have hn := h.ec
  funext j
  unfold fkR exR
  by_cases hj : j < 84
  · have hz : N 0 ≤ j % 14 → N (10 + 6 * (j % 14) + j / 14) = 0 := fun h1 => h.ez (j % 14) (j / 14) h1 (by omega) (by omega)
    rw [if_pos hj, if_pos hj, mlC_at N (N 0) (show j / 14 < 6 by omega)]
    by_cases hc : j % 14 < N 0 ∧ (j / 14 = 3 ∨ j / 14 = 4)
    · rw [if_pos hc]
      split
      · rfl
      · rw [if_pos (by omega)]
    · rw [if_neg hc]
      split
      · rw [hz (by omega)]
      · split
        · rw [hz (by omega)]
        · rfl
  · rw [if_neg (by omega), if_neg (by omega), if_neg hj, if_neg hj]
theorem qX0_eat_4 {t : Nat} {N : Nat → Nat} (h : Inv t N) (ht : t ≤ 10000) : ∀ (k e : Nat), e ≤ N 0 → N 0 - e < k → pX0_eat_4 k (nI (N 0)) (rI (exR N)) (nI (lateU N e)) (nI e) = some (nI (lateU N (N 0)), rI (exR (mlC N (N 0)))) := by
  have hn := h.ec
  intro k
  induction k with
  | zero => intro e h1 h2; omega
  | succ k ih =>
    intro e h1 h2
    rw [pX0_eat_4_s]
    by_cases he : N 0 ≤ e
    · rw [if_pos ((zle (by omega) (by omega)).mpr he), qX5_fillKind (by omega), ob, qX5_fillKind (by omega), ob, exR_meal h, show e = N 0 from by omega]
    · have h3 := ih (e + 1) (by omega) (by omega)
      have hx := h.ex e (by omega)
      rw [if_neg (fun h => he ((zle (by omega) (by omega)).mp h)), gE (by omega) (by omega), ob]
      unfold pX0_eat_30
      by_cases hl : N (10 + 6 * e + 3) ≤ 360
      · rw [if_pos ((zle (by omega) (by omega)).mpr hl), zadd]
        rw [show lateU N (e + 1) = lateU N e from by simp [lateU, hl]] at h3
        exact h3
      · rw [if_neg (fun h => hl ((zle (by omega) (by omega)).mp h)), zadd, zadd]
        rw [show lateU N (e + 1) = lateU N e + 1 from by simp [lateU, hl]] at h3
        exact h3
theorem qX0_eat {t : Nat} {N : Nat → Nat} (h : Inv t N) (ht : t ≤ 10000) : pX0_eat (nI (N 0)) (rI (exR N)) = some (nI (lateU N (N 0)), rI (exR (mlC N (N 0)))) :=
  qX0_eat_4 h ht FU 0 (by omega) (by have := h.ec; unfold FU; omega)
theorem exR_next {t : Nat} {N : Nat → Nat} (h : Inv t N) : fkR (fkR (fkR (exR N) 2 14) 3 14) 4 14 = exR (nxN N) := by
  have hn := h.ec
  have e1 : exR (nxN N) = exR (nxC (mlC N (N 0)) (N 0)) := exR_congr (fun j h1 _ => nset_ne _ _ (by omega))
  rw [e1]
  funext j
  unfold fkR exR
  by_cases hj : j < 84
  · have hz : N 0 ≤ j % 14 → N (10 + 6 * (j % 14) + j / 14) = 0 := fun h1 => h.ez (j % 14) (j / 14) h1 (by omega) (by omega)
    rw [if_pos hj, if_pos hj, nxC_at _ (N 0) (show j / 14 < 6 by omega), mlC_at N (N 0) (show j / 14 < 6 by omega)]
    by_cases hc : j % 14 < N 0 ∧ j / 14 = 2
    · rw [if_pos (c := j % 14 < N 0 ∧ j / 14 = 2) hc, if_neg (by omega), if_neg (by omega), if_pos (by omega)]
    · rw [if_neg (c := j % 14 < N 0 ∧ j / 14 = 2) hc]
      by_cases hd : j % 14 < N 0 ∧ (j / 14 = 3 ∨ j / 14 = 4)
      · rw [if_pos (c := j % 14 < N 0 ∧ (j / 14 = 3 ∨ j / 14 = 4)) hd]
        split
        · rfl
        · rw [if_pos (by omega)]
      · rw [if_neg (c := j % 14 < N 0 ∧ (j / 14 = 3 ∨ j / 14 = 4)) hd]
        split
        · rw [hz (by omega)]
        · split
          · rw [hz (by omega)]
          · split
            · rw [hz (by omega)]
            · rfl
  · rw [if_neg (by omega), if_neg (by omega), if_neg (by omega), if_neg hj, if_neg hj]
theorem qX0_beginDay {t : Nat} {N : Nat → Nat} (h : Inv t N) : pX0_beginDay (nI (N 2)) (rI (exR N)) = some (nI (N 2 + 1), nI (N 2 + 1), rI (exR (nxN N))) := by
  unfold pX0_beginDay
  rw [qX5_fillKind (by omega), ob, qX5_fillKind (by omega), ob, qX5_fillKind (by omega), ob, exR_next h, zadd]
theorem qX0_valueOf {N : Nat → Nat} {k : Nat} (hk : k < 3) : pX0_valueOf (rI (seR N)) (nI k) = some (nI (N (7 + k))) := by
  unfold pX0_valueOf
  rw [gT hk, ob]
/-- a setting changed -/
def seN (N : Nat → Nat) (k v : Nat) : Nat → Nat := nset N (7 + k) v
theorem qX0_change {N : Nat → Nat} {k v : Nat} (hk : k < 3) : pX0_change (rI (seR N)) (nI k) (nI v) = some (nI (N (7 + k)), rI (seR (seN N k v))) := by
  unfold pX0_change seN
  rw [qX0_valueOf hk, ob, qX5_put (by omega) (by omega) (by omega) (by omega), ob, rI_upd, seR_set hk]
theorem qX0_shotScenes_4 {t : Nat} {N : Nat → Nat} (h : Inv t N) : ∀ (k e : Nat), e ≤ N 1 → N 1 - e < k → pX0_shotScenes_4 k (nI (N 1)) (rI (scR N)) (nI (shU N e)) (nI e) = some (nI (shU N (N 1))) := by
  have hn := h.sn
  intro k
  induction k with
  | zero => intro e h1 h2; omega
  | succ k ih =>
    intro e h1 h2
    rw [pX0_shotScenes_4_s]
    by_cases he : N 1 ≤ e
    · rw [if_pos ((zle (by omega) (by omega)).mpr he), show e = N 1 from by omega]
    · have h3 := ih (e + 1) (by omega) (by omega)
      have hx := h.sc e (by omega)
      rw [if_neg (fun h => he ((zle (by omega) (by omega)).mp h)), qX0_crowdOf (by omega), ob]
      unfold pX0_shotScenes_23
      rw [shU] at h3
      by_cases hl : N (94 + 7 * e + 6) = 0
      · rw [if_pos ((zeq0 (by omega)).mpr hl), zadd]
        rw [hx.2.2.2.2.2.2.2.1.mpr hl, Nat.add_zero] at h3
        exact h3
      · rw [if_neg (fun h => hl ((zeq0 (by omega)).mp h)), zadd, zadd]
        have h5 : N (94 + 7 * e + 5) = 1 := by
          have : N (94 + 7 * e + 5) ≠ 0 := fun h6 => hl (hx.2.2.2.2.2.2.2.1.mp h6)
          omega
        rw [h5] at h3
        exact h3
theorem qX0_shotScenes {t : Nat} {N : Nat → Nat} (h : Inv t N) : pX0_shotScenes (nI (N 1)) (rI (scR N)) = some (nI (shU N (N 1))) :=
  qX0_shotScenes_4 h FU 0 (by omega) (by have := h.sn; unfold FU; omega)
/-! ===== copies, a new film ===== -/
def cpR (F G : Nat → Int32) (c : Nat) : Nat → Int32 := fun j => if j < c then G j else F j
theorem qX5_copy_2 {F G : Nat → Int32} {n : Nat} (hn : n < 100000) : ∀ (k c : Nat), c ≤ n → n - c < k → pX5_copy_2 k n (cpR F G c) n G (nI c) = some (cpR F G n) := by
  intro k
  induction k with
  | zero => intro c h1 h2; omega
  | succ k ih =>
    intro c h1 h2
    rw [pX5_copy_2_s]
    unfold pX5_copy_38
    rw [zof]
    by_cases hc : n ≤ c
    · rw [if_pos ((zle (by omega) (by omega)).mpr hc), show c = n from by omega]
    · rw [if_neg (fun h => hc ((zle (by omega) (by omega)).mp h)), if_neg (fun h => hc ((zle (by omega) (by omega)).mp h)), if_pos ((znb (by omega)).mpr (by omega)), if_pos ((znb (by omega)).mpr (by omega)), zcl (by omega), zadd]
      rw [show upd (cpR F G c) c (G c) = cpR F G (c + 1) from by
        funext j
        unfold upd cpR
        by_cases h : j = c
        · rw [if_pos h, if_pos (by omega), h]
        · rw [if_neg h]
          by_cases h3 : j < c
          · rw [if_pos h3, if_pos (by omega)]
          · rw [if_neg h3, if_neg (by omega)]]
      exact ih (c + 1) (by omega) (by omega)
theorem qX5_copy {F G : Nat → Int32} {n : Nat} (hn : n < 3000) (h : ∀ j, n ≤ j → F j = G j) : pX5_copy n F n G = some G := by
  have h1 := qX5_copy_2 (F := F) (G := G) (n := n) (by omega) FU 0 (by omega) (by unfold FU; omega)
  rw [show cpR F G 0 = F from by funext j; unfold cpR; rw [if_neg (by omega)], show cpR F G n = G from by
    funext j
    unfold cpR
    split
    · rfl
    · exact h j (by omega)] at h1
  exact h1
theorem qX0_copy {a0 a1 a2 a3 a4 a5 a6 b0 b1 b2 b3 b4 b5 b6 : Int32} {N M : Nat → Nat} : pX0_copy a0 a1 a2 a3 a4 a5 a6 (rI (exR N)) (rI (scR N)) (rI (seR N)) b0 b1 b2 b3 b4 b5 b6 (rI (exR M)) (rI (scR M)) (rI (seR M)) = some (b0, b1, b2, b3, b4, b5, b6, rI (exR M), rI (scR M), rI (seR M)) := by
  unfold pX0_copy
  rw [qX5_copy (by omega) (fun j hj => by rw [rI_at, rI_at]; unfold exR; rw [if_neg (by omega), if_neg (by omega)]), ob, qX5_copy (by omega) (fun j hj => by rw [rI_at, rI_at]; unfold scR; rw [if_neg (by omega), if_neg (by omega)]), ob, qX5_copy (by omega) (fun j hj => by rw [rI_at, rI_at]; unfold seR; rw [if_neg (by omega), if_neg (by omega)]), ob]
theorem qX5_fillAll {F : Nat → Nat} {n : Nat} (hn : n < 3000) : pX5_fillAll n (rI F) (nI 0) = some (rI (fun j => if j < n then 0 else F j)) := by
  have go : ∀ (k c : Nat), c ≤ n → n - c < k → pX5_fillAll_2 k n (rI (fun j => if j < c then 0 else F j)) (nI 0) (nI c) = some (rI (fun j => if j < n then 0 else F j)) := by
    intro k
    induction k with
    | zero => intro c h1 h2; omega
    | succ k ih =>
      intro c h1 h2
      rw [pX5_fillAll_2_s, zof]
      by_cases hc : n ≤ c
      · rw [if_pos ((zle (by omega) (by omega)).mpr hc), show c = n from by omega]
      · rw [if_neg (fun h => hc ((zle (by omega) (by omega)).mp h)), if_pos ((znb (by omega)).mpr (by omega)), zcl (by omega), zadd, rI_upd]
        rw [show nset (fun j => if j < c then 0 else F j) c 0 = (fun j => if j < c + 1 then 0 else F j) from by
          funext j
          unfold nset
          dsimp only
          by_cases h : j = c
          · rw [if_pos h, if_pos (by omega)]
          · rw [if_neg h]
            by_cases h3 : j < c
            · rw [if_pos h3, if_pos (by omega)]
            · rw [if_neg h3, if_neg (by omega)]]
        exact ih (c + 1) (by omega) (by omega)
  have h := go FU 0 (by omega) (by unfold FU; omega)
  rw [show (fun j => if j < 0 then 0 else F j) = F from by funext j; rw [if_neg (by omega)]] at h
  exact h
theorem qX0_startNew {a0 a1 a2 a3 a4 a5 a6 : Int32} {N : Nat → Nat} : pX0_startNew a0 a1 a2 a3 a4 a5 a6 (rI (exR N)) (rI (scR N)) (rI (seR N)) = some (nI (N0 0), nI (N0 1), nI (N0 2), nI (N0 3), nI (N0 4), nI (N0 5), nI (N0 6), rI (exR N0), rI (scR N0), rI (seR N0)) := by
  unfold pX0_startNew
  rw [qX5_fillAll (by omega), ob, qX5_fillAll (by omega), ob, qX5_put (by omega) (by omega) (by omega) (by omega), ob, rI_upd, qX5_put (by omega) (by omega) (by omega) (by omega), ob, rI_upd, qX5_put (by omega) (by omega) (by omega) (by omega), ob, rI_upd]
  rw [seR_set (by omega), seR_set (by omega), seR_set (by omega)]
  rw [show (fun j => if j < 84 then 0 else exR N j) = exR N0 from by
    funext j
    unfold exR
    by_cases h : j < 84
    · rw [if_pos h, if_pos h]
      unfold N0
      rw [nset_ne _ _ (by omega), nset_ne _ _ (by omega), nset_ne _ _ (by omega)]
    · rw [if_neg h, if_neg h, if_neg h]]
  rw [show (fun j => if j < 60 then 0 else scR N j) = scR N0 from by
    funext j
    unfold scR
    by_cases h : j < 60
    · rw [if_pos h, if_pos h]
      unfold N0
      rw [nset_ne _ _ (by split <;> omega), nset_ne _ _ (by split <;> omega), nset_ne _ _ (by split <;> omega)]
    · rw [if_neg h, if_neg h, if_neg h]]
  rw [show seR (nset (nset (nset N (7 + 0) 600) (7 + 1) 10) (7 + 2) 5) = seR N0 from by
    apply seR_congr
    intro j h1 h2
    unfold N0 nset
    have : j = 7 ∨ j = 8 ∨ j = 9 := by omega
    rcases this with h | h | h <;> subst h <;> rfl]
  rfl
